section
-- ===== PART A: goes FIRST, ahead of the names: the tables' words, and 'selects' of the private methods out of them =====
/-- a private method of a class that the tables say can be made, by its rows of tables_1 -/
def lw_okq (q : MethodName × Nat) : Prop := (q.1.cls ≠ "java/lang/invoke/MethodHandle" ∧ q.1.cls ≠ "java/lang/invoke/VarHandle") ∧ Cond.instantiable q.1.cls q.2 ∈ tables_1 ∧ Cond.privateMethod q.1 ∈ tables_1 ∧ Cond.instanceMethod q.1 ∈ tables_1
theorem lw_p0 : lw_okq (⟨"RoamBooks", "receivedAt", "(I)I"⟩, 7) := ⟨⟨by decide +kernel, by decide +kernel⟩, List.mem_of_getElem? (i := 25) (by decide +kernel), List.mem_of_getElem? (i := 167) (by decide +kernel), List.mem_of_getElem? (i := 168) (by decide +kernel)⟩
theorem lw_p1 : lw_okq (⟨"RoamBooks", "requirePlace", "(I)V"⟩, 7) := ⟨⟨by decide +kernel, by decide +kernel⟩, List.mem_of_getElem? (i := 25) (by decide +kernel), List.mem_of_getElem? (i := 171) (by decide +kernel), List.mem_of_getElem? (i := 172) (by decide +kernel)⟩
theorem lw_p2 : lw_okq (⟨"java/lang/Throwable", "fillInStackTrace", "(I)Ljava/lang/Throwable;"⟩, 6) := ⟨⟨by decide +kernel, by decide +kernel⟩, List.mem_of_getElem? (i := 213) (by decide +kernel), List.mem_of_getElem? (i := 211) (by decide +kernel), List.mem_of_getElem? (i := 212) (by decide +kernel)⟩
theorem lw_p3 : lw_okq (⟨"RoamBooks", "detachIfNotReceived", "(LRoamBooks$Subscriber;)V"⟩, 7) := ⟨⟨by decide +kernel, by decide +kernel⟩, List.mem_of_getElem? (i := 25) (by decide +kernel), List.mem_of_getElem? (i := 281) (by decide +kernel), List.mem_of_getElem? (i := 282) (by decide +kernel)⟩
theorem lw_p4 : lw_okq (⟨"RoamBooks", "networkAt", "(I)LRoamBooks$Network;"⟩, 7) := ⟨⟨by decide +kernel, by decide +kernel⟩, List.mem_of_getElem? (i := 25) (by decide +kernel), List.mem_of_getElem? (i := 295) (by decide +kernel), List.mem_of_getElem? (i := 296) (by decide +kernel)⟩
theorem lw_p5 : lw_okq (⟨"RoamBooks", "requireNetwork", "(I)V"⟩, 7) := ⟨⟨by decide +kernel, by decide +kernel⟩, List.mem_of_getElem? (i := 25) (by decide +kernel), List.mem_of_getElem? (i := 299) (by decide +kernel), List.mem_of_getElem? (i := 300) (by decide +kernel)⟩
theorem lw_p6 : lw_okq (⟨"RoamBooks", "detachAllFrom", "(I)V"⟩, 7) := ⟨⟨by decide +kernel, by decide +kernel⟩, List.mem_of_getElem? (i := 25) (by decide +kernel), List.mem_of_getElem? (i := 308) (by decide +kernel), List.mem_of_getElem? (i := 309) (by decide +kernel)⟩
theorem lw_p7 : lw_okq (⟨"java/util/ArrayList", "add", "(Ljava/lang/Object;[Ljava/lang/Object;I)V"⟩, 3) := ⟨⟨by decide +kernel, by decide +kernel⟩, List.mem_of_getElem? (i := 37) (by decide +kernel), List.mem_of_getElem? (i := 377) (by decide +kernel), List.mem_of_getElem? (i := 378) (by decide +kernel)⟩
theorem lw_p8 : lw_okq (⟨"java/util/ArrayList", "grow", "()[Ljava/lang/Object;"⟩, 3) := ⟨⟨by decide +kernel, by decide +kernel⟩, List.mem_of_getElem? (i := 37) (by decide +kernel), List.mem_of_getElem? (i := 381) (by decide +kernel), List.mem_of_getElem? (i := 382) (by decide +kernel)⟩
theorem lw_p9 : lw_okq (⟨"java/util/ArrayList", "grow", "(I)[Ljava/lang/Object;"⟩, 3) := ⟨⟨by decide +kernel, by decide +kernel⟩, List.mem_of_getElem? (i := 37) (by decide +kernel), List.mem_of_getElem? (i := 385) (by decide +kernel), List.mem_of_getElem? (i := 386) (by decide +kernel)⟩
theorem lw_p10 : lw_okq (⟨"RoamBooks", "subscriberAt", "(I)LRoamBooks$Subscriber;"⟩, 7) := ⟨⟨by decide +kernel, by decide +kernel⟩, List.mem_of_getElem? (i := 25) (by decide +kernel), List.mem_of_getElem? (i := 526) (by decide +kernel), List.mem_of_getElem? (i := 527) (by decide +kernel)⟩
theorem lw_p11 : lw_okq (⟨"RoamBooks", "whyNotUsable", "(LRoamBooks$Subscriber;I)I"⟩, 7) := ⟨⟨by decide +kernel, by decide +kernel⟩, List.mem_of_getElem? (i := 25) (by decide +kernel), List.mem_of_getElem? (i := 546) (by decide +kernel), List.mem_of_getElem? (i := 547) (by decide +kernel)⟩
theorem lw_p12 : lw_okq (⟨"RoamBooks", "agreementNow", "(II)LRoamBooks$Agreement;"⟩, 7) := ⟨⟨by decide +kernel, by decide +kernel⟩, List.mem_of_getElem? (i := 25) (by decide +kernel), List.mem_of_getElem? (i := 550) (by decide +kernel), List.mem_of_getElem? (i := 551) (by decide +kernel)⟩
theorem lw_p13 : lw_okq (⟨"RoamBooks", "isSteered", "(LRoamBooks$Subscriber;I)Z"⟩, 7) := ⟨⟨by decide +kernel, by decide +kernel⟩, List.mem_of_getElem? (i := 25) (by decide +kernel), List.mem_of_getElem? (i := 558) (by decide +kernel), List.mem_of_getElem? (i := 559) (by decide +kernel)⟩
theorem lw_p14 : lw_okq (⟨"RoamBooks", "makeContact", "(LRoamBooks$Subscriber;I)V"⟩, 7) := ⟨⟨by decide +kernel, by decide +kernel⟩, List.mem_of_getElem? (i := 25) (by decide +kernel), List.mem_of_getElem? (i := 562) (by decide +kernel), List.mem_of_getElem? (i := 563) (by decide +kernel)⟩
theorem lw_p15 : lw_okq (⟨"RoamBooks$Book", "isLine", "(I)Z"⟩, 1) := ⟨⟨by decide +kernel, by decide +kernel⟩, List.mem_of_getElem? (i := 69) (by decide +kernel), List.mem_of_getElem? (i := 570) (by decide +kernel), List.mem_of_getElem? (i := 571) (by decide +kernel)⟩
def lw_privs_1 : List (MethodName × Nat) := [(⟨"RoamBooks", "receivedAt", "(I)I"⟩, 7), (⟨"RoamBooks", "requirePlace", "(I)V"⟩, 7), (⟨"java/lang/Throwable", "fillInStackTrace", "(I)Ljava/lang/Throwable;"⟩, 6), (⟨"RoamBooks", "detachIfNotReceived", "(LRoamBooks$Subscriber;)V"⟩, 7), (⟨"RoamBooks", "networkAt", "(I)LRoamBooks$Network;"⟩, 7), (⟨"RoamBooks", "requireNetwork", "(I)V"⟩, 7), (⟨"RoamBooks", "detachAllFrom", "(I)V"⟩, 7), (⟨"java/util/ArrayList", "add", "(Ljava/lang/Object;[Ljava/lang/Object;I)V"⟩, 3), (⟨"java/util/ArrayList", "grow", "()[Ljava/lang/Object;"⟩, 3), (⟨"java/util/ArrayList", "grow", "(I)[Ljava/lang/Object;"⟩, 3), (⟨"RoamBooks", "subscriberAt", "(I)LRoamBooks$Subscriber;"⟩, 7), (⟨"RoamBooks", "whyNotUsable", "(LRoamBooks$Subscriber;I)I"⟩, 7), (⟨"RoamBooks", "agreementNow", "(II)LRoamBooks$Agreement;"⟩, 7), (⟨"RoamBooks", "isSteered", "(LRoamBooks$Subscriber;I)Z"⟩, 7), (⟨"RoamBooks", "makeContact", "(LRoamBooks$Subscriber;I)V"⟩, 7), (⟨"RoamBooks$Book", "isLine", "(I)Z"⟩, 1)]
theorem lw_r1 : ∀ q ∈ lw_privs_1, lw_okq q := List.forall_mem_cons.mpr ⟨lw_p0, List.forall_mem_cons.mpr ⟨lw_p1, List.forall_mem_cons.mpr ⟨lw_p2, List.forall_mem_cons.mpr ⟨lw_p3, List.forall_mem_cons.mpr ⟨lw_p4, List.forall_mem_cons.mpr ⟨lw_p5, List.forall_mem_cons.mpr ⟨lw_p6, List.forall_mem_cons.mpr ⟨lw_p7, List.forall_mem_cons.mpr ⟨lw_p8, List.forall_mem_cons.mpr ⟨lw_p9, List.forall_mem_cons.mpr ⟨lw_p10, List.forall_mem_cons.mpr ⟨lw_p11, List.forall_mem_cons.mpr ⟨lw_p12, List.forall_mem_cons.mpr ⟨lw_p13, List.forall_mem_cons.mpr ⟨lw_p14, List.forall_mem_cons.mpr ⟨lw_p15, fun _ h => absurd h List.not_mem_nil⟩⟩⟩⟩⟩⟩⟩⟩⟩⟩⟩⟩⟩⟩⟩⟩
theorem lw_p16 : lw_okq (⟨"RoamBooks", "whyNotFound", "(LRoamBooks$Subscriber;LRoamBooks$Subscriber;)I"⟩, 7) := ⟨⟨by decide +kernel, by decide +kernel⟩, List.mem_of_getElem? (i := 25) (by decide +kernel), List.mem_of_getElem? (i := 595) (by decide +kernel), List.mem_of_getElem? (i := 596) (by decide +kernel)⟩
theorem lw_p17 : lw_okq (⟨"RoamBooks", "priceOfCalling", "(LRoamBooks$Subscriber;)I"⟩, 7) := ⟨⟨by decide +kernel, by decide +kernel⟩, List.mem_of_getElem? (i := 25) (by decide +kernel), List.mem_of_getElem? (i := 607) (by decide +kernel), List.mem_of_getElem? (i := 608) (by decide +kernel)⟩
theorem lw_p18 : lw_okq (⟨"RoamBooks", "priceOfBeingCalled", "(LRoamBooks$Subscriber;)I"⟩, 7) := ⟨⟨by decide +kernel, by decide +kernel⟩, List.mem_of_getElem? (i := 25) (by decide +kernel), List.mem_of_getElem? (i := 615) (by decide +kernel), List.mem_of_getElem? (i := 616) (by decide +kernel)⟩
theorem lw_p19 : lw_okq (⟨"RoamBooks", "settle", "(LRoamBooks$Subscriber;II)V"⟩, 7) := ⟨⟨by decide +kernel, by decide +kernel⟩, List.mem_of_getElem? (i := 25) (by decide +kernel), List.mem_of_getElem? (i := 643) (by decide +kernel), List.mem_of_getElem? (i := 644) (by decide +kernel)⟩
theorem lw_p20 : lw_okq (⟨"RoamBooks", "accountOf", "(II)LRoamBooks$Account;"⟩, 7) := ⟨⟨by decide +kernel, by decide +kernel⟩, List.mem_of_getElem? (i := 25) (by decide +kernel), List.mem_of_getElem? (i := 647) (by decide +kernel), List.mem_of_getElem? (i := 648) (by decide +kernel)⟩
theorem lw_p21 : lw_okq (⟨"RoamBooks", "beginHours", "(II)V"⟩, 7) := ⟨⟨by decide +kernel, by decide +kernel⟩, List.mem_of_getElem? (i := 25) (by decide +kernel), List.mem_of_getElem? (i := 722) (by decide +kernel), List.mem_of_getElem? (i := 723) (by decide +kernel)⟩
theorem lw_p22 : lw_okq (⟨"RoamBooks", "beginHour", "(I)V"⟩, 7) := ⟨⟨by decide +kernel, by decide +kernel⟩, List.mem_of_getElem? (i := 25) (by decide +kernel), List.mem_of_getElem? (i := 727) (by decide +kernel), List.mem_of_getElem? (i := 728) (by decide +kernel)⟩
theorem lw_p23 : lw_okq (⟨"RoamBooks", "beginMonth", "()V"⟩, 7) := ⟨⟨by decide +kernel, by decide +kernel⟩, List.mem_of_getElem? (i := 25) (by decide +kernel), List.mem_of_getElem? (i := 736) (by decide +kernel), List.mem_of_getElem? (i := 737) (by decide +kernel)⟩
theorem lw_p24 : lw_okq (⟨"RoamBooks$Account", "minutesTakenIn", "(I)I"⟩, 3) := ⟨⟨by decide +kernel, by decide +kernel⟩, List.mem_of_getElem? (i := 108) (by decide +kernel), List.mem_of_getElem? (i := 851) (by decide +kernel), List.mem_of_getElem? (i := 852) (by decide +kernel)⟩
theorem lw_p25 : lw_okq (⟨"RoamBooks$Account", "owedIn", "(II)I"⟩, 3) := ⟨⟨by decide +kernel, by decide +kernel⟩, List.mem_of_getElem? (i := 108) (by decide +kernel), List.mem_of_getElem? (i := 855) (by decide +kernel), List.mem_of_getElem? (i := 856) (by decide +kernel)⟩
def lw_privs_2 : List (MethodName × Nat) := [(⟨"RoamBooks", "whyNotFound", "(LRoamBooks$Subscriber;LRoamBooks$Subscriber;)I"⟩, 7), (⟨"RoamBooks", "priceOfCalling", "(LRoamBooks$Subscriber;)I"⟩, 7), (⟨"RoamBooks", "priceOfBeingCalled", "(LRoamBooks$Subscriber;)I"⟩, 7), (⟨"RoamBooks", "settle", "(LRoamBooks$Subscriber;II)V"⟩, 7), (⟨"RoamBooks", "accountOf", "(II)LRoamBooks$Account;"⟩, 7), (⟨"RoamBooks", "beginHours", "(II)V"⟩, 7), (⟨"RoamBooks", "beginHour", "(I)V"⟩, 7), (⟨"RoamBooks", "beginMonth", "()V"⟩, 7), (⟨"RoamBooks$Account", "minutesTakenIn", "(I)I"⟩, 3), (⟨"RoamBooks$Account", "owedIn", "(II)I"⟩, 3)]
theorem lw_r2 : ∀ q ∈ lw_privs_2, lw_okq q := List.forall_mem_cons.mpr ⟨lw_p16, List.forall_mem_cons.mpr ⟨lw_p17, List.forall_mem_cons.mpr ⟨lw_p18, List.forall_mem_cons.mpr ⟨lw_p19, List.forall_mem_cons.mpr ⟨lw_p20, List.forall_mem_cons.mpr ⟨lw_p21, List.forall_mem_cons.mpr ⟨lw_p22, List.forall_mem_cons.mpr ⟨lw_p23, List.forall_mem_cons.mpr ⟨lw_p24, List.forall_mem_cons.mpr ⟨lw_p25, fun _ h => absurd h List.not_mem_nil⟩⟩⟩⟩⟩⟩⟩⟩⟩⟩
def lw_privs : List (MethodName × Nat) := lw_privs_1 ++ (lw_privs_2)
def lw_tbl : List Cond := k2_sels lw_privs ++ tables_1
theorem lw_privs_ok : ∀ q ∈ lw_privs, lw_okq q := by
  show ∀ q ∈ lw_privs_1 ++ (lw_privs_2), lw_okq q
  exact List.forall_mem_append.mpr ⟨lw_r1, lw_r2⟩

/-! ===== BEGIN words of one list among another's, by their places ===== -/
theorem goodIn_r {big : List Cond} (ws : List Cond) (ps : List Nat) (hp : ws = ps.filterMap (fun i => big[i]?)) (h : ws.all goodWord = true) : GoodIn big ws := by
  intro w hw
  have h1 := List.all_eq_true.mp h w hw
  rw [hp] at hw
  obtain ⟨i, -, hi⟩ := List.mem_filterMap.mp hw
  have hm : w ∈ big := by first | exact List.mem_of_getElem? hi | exact List.getElem?_mem hi
  exact ⟨hm, good_of_word h1⟩
theorem goodIn_app {big a b : List Cond} (ha : GoodIn big a) (hb : GoodIn big b) : GoodIn big (a ++ b) := fun w h => (List.mem_append.mp h).elim (ha w) (hb w)
theorem goodIn_ca {big a b : List Cond} {c : Cond} (ha : GoodIn big (c :: a)) (hb : GoodIn big b) : GoodIn big (c :: (a ++ b)) := fun w h => (List.mem_cons.mp h).elim (fun e => ha w (List.mem_cons.mpr (Or.inl e))) (fun h => (List.mem_append.mp h).elim (fun h => ha w (List.mem_cons.mpr (Or.inr h))) (hb w))
theorem goodIn_sub {big ws : List Cond} (hm : ∀ w ∈ ws, w ∈ big) (h : ws.all goodWord = true) : GoodIn big ws := fun w hw => ⟨hm w hw, good_of_word (List.all_eq_true.mp h w hw)⟩
/-! ===== END ===== -/

/-! ===== BEGIN exceptions that leave a method, and their catching by the caller (launches without stack traces) ===== -/
section VXA
/-! The laws vx_back, vx_callV, vx_callS, vx_callSW, vx_throw0, vx_throwS follow proofs of the library, with one case more: JvmDerived/Free/Laws.lean (Back.of_free), Shelf42/LK1.lean (callV, callS), Shelf/KitTraced.lean (throwNew0V, throwNewS). -/
/-- where a method has thrown q: the class by its name, the cell, what was written, the world -/
def vx_T (XC : String → State → State → Prop) (st : State) (q : Addr) (t : State) (mc ms : Nat) (free : Addr → Prop) : Prop :=
  ∃ (E : String) (ce : Cell) (L : List Loc), XC E st t ∧ t.heap[q]? = some ce ∧ ce.vm = .none ∧ st.vm.findClass E = some ce.cls ∧ st.WarmedH t.vm ∧ st.sameButNew ({ t with vm := st.vm } : State) L mc ms ∧ ∀ z ∈ L, free z.base
def vx_Q (Qc : Array Value → State → Outcome → State → Prop) (XC : String → State → State → Prop) (mc ms : Nat) (free : Addr → Prop) : Array Value → State → Outcome → State → Prop := fun a st o t =>
  (Qc a st o t ∧ ∃ L, FrameEnd st o t L mc ms ∧ ∀ q ∈ L, free q.base) ∨ ∃ q, o = .threw q ∧ vx_T XC st q t mc ms free
/-- a callee that returns or throws -/
def vx_Met (l : Launch) (y : MethodName) (ws : List Cond) (rm : Room) (Pc : Array Value → State → Prop) (Qc : Array Value → State → Outcome → State → Prop) (XC : String → State → State → Prop) (mc ms : Nat) (free : Addr → Prop) : Prop :=
  MetFree l y (headSpec ws rm) Pc (fun _ _ _ _ _ => True) (vx_Q Qc XC mc ms free)
def vx_Post (XC : String → State → State → Prop) (mc ms : Nat) (free : Addr → Prop) : Pt → Array Value → Addr → Pt → Prop := fun A a q B =>
  ∃ (g : JFrame) (mk : MethodId) (t : State) (L : List Loc) (E : String) (ce : Cell), B.U.heap = t.heap ∧ B.U.vm = t.vm ∧ XC E (A.U.calling g mk a) t ∧ t.heap[q]? = some ce ∧ ce.vm = .none ∧ A.U.vm.findClass E = some ce.cls ∧ B.locs = A.locs ++ L ∧ (∀ z ∈ L, free z.base) ∧ B.cells = A.cells + mc ∧ B.slots = A.slots + ms
def vx_Back (l : Launch) (R : Room) (p : Program) (e : Env) (below : List Frame) (s : State) (sargs : Array Value) (y : MethodName) (len W9 : Nat)
    (Pre : Pt → Array Value → Prop) (Post : Pt → Array Value → Option Value → Pt → Prop) (PostX : Pt → Array Value → Addr → Pt → Prop) : Prop :=
  ∀ (m : MethodId) (meth : Method) (c : Code) (A : Pt) (g : JFrame) (ig : Instr) (mk : MethodId) (a : Array Value),
    Stand p l e R s m sargs below meth c A.U A.locs A.cells A.slots → g.method = m → g.locals.size = c.maxLocals → decode c.code g.pc = .ok (ig, len) →
    2 * g.monitorRoom + (g.stack.map fun v => v.category).sum ≤ W9 → A.U.methodNamed? y = some mk → Pre A a →
    (∃ (v : Option Value) (B : Pt), Stand p l e R s m sargs below meth c B.U B.locs B.cells B.slots ∧ Post A a v B ∧
      Steps p.tables e below (doInvoke e (A.U.setTop g) [] mk a).1 (B.U.setTop { g with pc := g.pc + len, stack := v.toList ++ g.stack })) ∨
    (∃ (q : Addr) (B : Pt), Stand p l e R s m sargs below meth c B.U B.locs B.cells B.slots ∧ PostX A a q B ∧
      Steps p.tables e below (doInvoke e (A.U.setTop g) [] mk a).1 ((B.U.setTop g).pushFrame (.throwing q)))
section Payer
variable {l : Launch} {R : Room} {p : Program} {e : Env} {below : List Frame} {s : State} {sargs : Array Value} {y : MethodName} {len W9 : Nat}
theorem vx_back {ws : List Cond} {rm : Room} {Pc : Array Value → State → Prop} {Qc : Array Value → State → Outcome → State → Prop} {XC : String → State → State → Prop} {mc ms : Nat} {free : Addr → Prop} {bytes : ByteArray} {maxL : Nat} {ret : Option FieldType}
    (hM : vx_Met l y ws rm Pc Qc XC mc ms free) (hblind : FrameBlind Pc) (hrc : rm.cells = mc) (hrs : rm.slots = ms)
    (hframes : rm.frames + 1 ≤ R.frames) (hlocals : W9 + (maxL + 11) + rm.locals ≤ R.locals)
    (hws : ∀ w ∈ ws, ∀ a' U, s.WarmedH U.vm → w.before a' U = true) (hcode : Cond.code y bytes maxL ret ∈ ws) (hinit : ∀ a' U, s.WarmedH U.vm → (Cond.initialized y.cls).before a' U = true) :
    vx_Back l R p e below s sargs y len W9 (PreOf R mc ms Pc) (PostOf Qc mc ms free) (vx_Post XC mc ms free) := by
  intro m meth c A g ig mk a X hg hsize hdg hW hn hp
  have h1 : (headSpec ws rm).pre.before a A.U = true := atoms_intro fun w hw => hws w hw _ _ X.warmed
  have h2 : (Cond.code y bytes maxL ret).before a A.U = true := hws _ hcode _ _ X.warmed
  have h3 : (Cond.initialized y.cls).before a A.U = true := hinit _ _ X.warmed
  have h4 : A.cells + (headSpec ws rm).room.cells ≤ R.cells := by rw [show (headSpec ws rm).room.cells = mc from hrc]; exact hp.1
  have h5 : A.slots + (headSpec ws rm).room.slots ≤ R.slots := by rw [show (headSpec ws rm).room.slots = ms from hrs]; exact hp.2.1
  have hPc : Pc a (A.U.calling g mk a) := hblind _ _ _ _ hp.2.2
  obtain ⟨U, Ls, c0, s0⟩ := A
  dsimp only [Pt.U, Pt.locs, Pt.cells, Pt.slots] at h1 h2 h3 h4 h5 X hn hPc ⊢
  obtain ⟨methY, cY, hmY, hcY, -, hlY, -, -, -, -⟩ := Cond.code_spec hn h2
  obtain ⟨kY, hkY, -⟩ := className_of_methodNamed hn
  have hinitY : kY.init = .initialized := Cond.initialized_spec (findClass_of_methodNamed hn) hkY h3
  have h : At U g.method c below := by rw [hg]; exact X.here
  have hlocals9 : W9 + (maxL + 11) + (headSpec ws rm).room.locals ≤ R.locals := hlocals
  have happ : (headSpec ws rm).appliesLoose y e.platform (U.calling g mk a) = true :=
    Spec.appliesLoose_calling (g := g) h hdg hn hkY hinitY
      (X.room_calling (g := g) (R' := (headSpec ws rm).room) hsize hmY hcY hframes (by rw [hlY]; omega) h4 h5) h1
  obtain ⟨mid, hmid⟩ := h.above
  have hfr : (U.setTop g).frames = (.java g :: mid) ++ below := by rw [State.frames_setTop' g h.top, hmid]; rfl
  obtain ⟨o, s₂, hsteps, -, hend, hq⟩ := Steps.callFree hM p X.admits X.cas X.clock (acts := []) hfr happ hPc trivial
  have hq' : vx_Q Qc XC mc ms free a (U.calling g mk a) o s₂ := hq
  rw [State.frames_setTop' g h.top] at hend
  obtain ⟨g₀, hg0⟩ := Option.isSome_iff_exists.mp h.top
  obtain ⟨r, hr⟩ := State.topJava?_eq_some.mp hg0
  have hr' : (({ U with heap := s₂.heap, slotsUsed := s₂.slotsUsed } : State).setVm s₂.vm).frames = .java g₀ :: r := hr
  rcases hq' with ⟨hqc, L, hfe, hL⟩ | ⟨q, rfl, E, ce, L, hx, hce, hcv, hcl, hW₂, hsm, hL⟩
  · obtain ⟨⟨v, rfl⟩, hW₂, e2, q2, q3, q4, q5, q6⟩ := id hfe
    have e3 : s₂ = ({ (U.calling g mk a).setFrames s₂.frames with heap := s₂.heap, slotsUsed := s₂.slotsUsed } : State).setVm s₂.vm := by
      have : s₂ = ({ s₂ with vm := (U.calling g mk a).vm } : State).setVm s₂.vm := rfl
      rw [e2] at this
      exact this
    obtain ⟨c₂, i₂, len₂, hc₂, hd₂, hf₂⟩ := hend
    have hW' : U.WarmedH s₂.vm := hW₂
    have hcc : c₂ = c := by
      have h1 : s₂.code? g.method = U.code? g.method := by
        rw [State.code?_eq, State.code?_eq, hW'.alike.method?]
      exact Option.some.inj (hc₂.symm.trans (h1.trans h.code))
    subst hcc
    have hlen : len₂ = len := by rw [hdg] at hd₂; cases hd₂; rfl
    subst hlen
    have hs₂ : s₂ = (({ U with heap := s₂.heap, slotsUsed := s₂.slotsUsed } : State).setVm s₂.vm).setTop { g with pc := g.pc + len₂, stack := v.toList ++ g.stack } := by
      refine e3.trans ?_
      rw [hf₂, State.calling_eq h.top, State.setFrames_setFrames, State.setTop_of_frames _ hr', hr]
      rfl
    have hsame : U.sameButNew ({ U with heap := s₂.heap, slotsUsed := s₂.slotsUsed } : State) L mc ms := by
      refine ⟨?_, q2, q3, q4, q5, q6⟩
      obtain ⟨t, ht, -⟩ := State.frames_cons hr
      show ({ U with heap := s₂.heap, slotsUsed := s₂.slotsUsed } : State) = { U.setFrames U.frames with heap := s₂.heap, slotsUsed := s₂.slotsUsed }
      rw [State.setFrames_self ht]
    subst hg
    refine Or.inl ⟨v, ⟨(({ U with heap := s₂.heap, slotsUsed := s₂.slotsUsed } : State).setVm s₂.vm), Ls ++ L, c0 + mc, s0 + ms⟩,
      ⟨X.admits, X.cas, X.clock, X.frames, X.room, X.hears, X.method, X.code, (X.here.setHeapUsed s₂.heap s₂.slotsUsed).setVm hW'.alike, X.tail, State.WarmedH.trans X.warmed hW', X.limits, X.bytes, X.same.trans (hsame.setVm s.vm)⟩,
      ⟨g, mk, s₂, L, rfl, rfl, hqc, rfl, hL, rfl, rfl⟩, ?_⟩
    show Steps p.tables e below _ ((({ U with heap := s₂.heap, slotsUsed := s₂.slotsUsed } : State).setVm s₂.vm).setTop { g with pc := g.pc + len₂, stack := v.toList ++ g.stack })
    rw [← hs₂]
    exact hsteps
  · obtain ⟨e2, q2, q3, q4, q5, q6⟩ := id hsm
    have e3 : s₂ = ({ (U.calling g mk a).setFrames s₂.frames with heap := s₂.heap, slotsUsed := s₂.slotsUsed } : State).setVm s₂.vm := by
      have : s₂ = ({ s₂ with vm := (U.calling g mk a).vm } : State).setVm s₂.vm := rfl
      rw [e2] at this
      exact this
    have hf₂ : s₂.frames = .throwing q :: .java g :: U.frames.tail := hend
    have hW' : U.WarmedH s₂.vm := hW₂
    have hs₂ : s₂ = ((({ U with heap := s₂.heap, slotsUsed := s₂.slotsUsed } : State).setVm s₂.vm).setTop g).pushFrame (.throwing q) := by
      refine e3.trans ?_
      rw [hf₂, State.calling_eq h.top, State.setFrames_setFrames, State.pushFrame, State.frames_setTop _ hr', State.setTop_of_frames _ hr', State.setFrames_setFrames, hr]
      rfl
    have hsame : U.sameButNew ({ U with heap := s₂.heap, slotsUsed := s₂.slotsUsed } : State) L mc ms := by
      refine ⟨?_, q2, q3, q4, q5, q6⟩
      obtain ⟨t, ht, -⟩ := State.frames_cons hr
      show ({ U with heap := s₂.heap, slotsUsed := s₂.slotsUsed } : State) = { U.setFrames U.frames with heap := s₂.heap, slotsUsed := s₂.slotsUsed }
      rw [State.setFrames_self ht]
    subst hg
    refine Or.inr ⟨q, ⟨(({ U with heap := s₂.heap, slotsUsed := s₂.slotsUsed } : State).setVm s₂.vm), Ls ++ L, c0 + mc, s0 + ms⟩,
      ⟨X.admits, X.cas, X.clock, X.frames, X.room, X.hears, X.method, X.code, (X.here.setHeapUsed s₂.heap s₂.slotsUsed).setVm hW'.alike, X.tail, State.WarmedH.trans X.warmed hW', X.limits, X.bytes, X.same.trans (hsame.setVm s.vm)⟩,
      ⟨g, mk, s₂, L, E, ce, rfl, rfl, hx, hce, hcv, hcl, rfl, hL, rfl, rfl⟩, ?_⟩
    show Steps p.tables e below _ (((({ U with heap := s₂.heap, slotsUsed := s₂.slotsUsed } : State).setVm s₂.vm).setTop g).pushFrame (.throwing q))
    rw [← hs₂]
    exact hsteps
end Payer
section Calls
variable {p : Program} {l : Launch} {e : Env} {R : Room} {s : State} {m : MethodId} {args : Array Value} {below : List Frame} {meth : Method} {c : Code} {T : State} {locs : List Loc} {cells slots : Nat}
theorem vx_callV (X : Stand p l e R s m args below meth c T locs cells slots) (hexec : p.tables.exec = Jvm.exec) {own C : String} {index : Nat} {y : MethodName} {bytes : ByteArray} {maxL : Nat} {ret : Option FieldType}
    (hown : s.vm.findClass own = some m.cls) (hlink : (Cond.methodLink own index y).before args s = true) (hinst : (Cond.instanceMethod y).before args s = true) (hsel : (Cond.selects C y y).before args s = true)
    (hcode : (Cond.code y bytes maxL ret).before args s = true) (hy : y.cls ≠ "java/lang/invoke/MethodHandle" ∧ y.cls ≠ "java/lang/invoke/VarHandle")
    {W9 : Nat} {Pre : Pt → Array Value → Prop} {Post : Pt → Array Value → Option Value → Pt → Prop} {PostX : Pt → Array Value → Addr → Pt → Prop} (hK : vx_Back l R p e below s args y 3 W9 Pre Post PostX)
    {b : Addr} {cellB : Cell} (hcell : T.heap[b]? = some cellB) (hobj : cellB.vm.isStatics = false) (hcls : s.vm.findClass C = some cellB.cls)
    {g : JFrame} (hg : g.method = m) (hsize : g.locals.size = c.maxLocals) {argsL rest : List Value} (hlen : ∀ sig, parseMethodDescriptor y.desc = some sig → argsL.length = sig.parameters.length)
    (hstack : g.stack = argsL.reverse ++ .ref b :: rest) (hW : 2 * g.monitorRoom + (rest.map fun v => v.category).sum ≤ W9) (hdg : decode c.code g.pc = .ok (.invokevirtual index, 3))
    (hpre : ∀ vm₁, s.WarmedH vm₁ → Pre ⟨T.setVm vm₁, locs, cells, slots⟩ (Value.ref b :: argsL).toArray) :
    (∃ (v : Option Value) (vm₁ : Vm) (B : Pt), s.WarmedH vm₁ ∧ Stand p l e R s m args below meth c B.U B.locs B.cells B.slots ∧ Post ⟨T.setVm vm₁, locs, cells, slots⟩ (Value.ref b :: argsL).toArray v B ∧
      ∀ target, Steps p.tables e below (B.U.setTop { g with pc := g.pc + 3, stack := v.toList ++ rest }) target → Steps p.tables e below (T.setTop g) target) ∨
    (∃ (q : Addr) (vm₁ : Vm) (B : Pt), s.WarmedH vm₁ ∧ Stand p l e R s m args below meth c B.U B.locs B.cells B.slots ∧ PostX ⟨T.setVm vm₁, locs, cells, slots⟩ (Value.ref b :: argsL).toArray q B ∧
      Steps p.tables e below (T.setTop g) ((B.U.setTop { g with stack := rest }).pushFrame (.throwing q))) := by
  obtain ⟨mk, methM, hnamed, hmethM, hstM, habM⟩ := Cond.instanceMethod_spec hinst
  obtain ⟨methM', cM, hmethM', -, -, -, -, -, -, hsigM⟩ := Cond.code_spec hnamed hcode
  cases hmethM.symm.trans hmethM'
  obtain ⟨c2, r2, m2, q1, q2, q3, q4, kP, hkP, hkPi⟩ := Cond.selects_spec hsel
  cases hcls.symm.trans q1
  cases (State.methodFound?_of_named hnamed hy).symm.trans q2
  cases hnamed.symm.trans q3
  have hselP : selectMethod e.platform s.vm cellB.cls mk = .method mk := by rw [Launch.admits_selectMethod X.admits]; exact q4
  obtain ⟨vm₁, X₁, hstep₁⟩ := X.invokevirtual hexec hown hlink hnamed hmethM hstM hkP hkPi hy (a := b) (cell := cellB) hcell
    (fun z h => by rw [h] at hobj; cases hobj) hselP hmethM habM hkP hkPi (g := g) hg (argsL := argsL) (rest := rest) (hlen _ hsigM) hstack hdg
  rcases hK m meth c ⟨T.setVm vm₁, locs, cells, slots⟩ { g with stack := rest } (.invokevirtual index) mk (Value.ref b :: argsL).toArray X₁ hg hsize hdg hW (X₁.named hnamed) (hpre vm₁ X₁.warmed) with ⟨v, B, X', hpost, hsteps⟩ | ⟨q, B, X', hpost, hsteps⟩
  · exact Or.inl ⟨v, vm₁, B, X₁.warmed, X', hpost, fun target h => hstep₁ _ fun acts => by rw [doInvoke_state]; exact hsteps.trans h⟩
  · exact Or.inr ⟨q, vm₁, B, X₁.warmed, X', hpost, hstep₁ _ fun acts => by rw [doInvoke_state]; exact hsteps⟩
theorem vx_callS (X : Stand p l e R s m args below meth c T locs cells slots) (hexec : p.tables.exec = Jvm.exec) {own : String} {index : Nat} {y : MethodName} {bytes : ByteArray} {maxL : Nat} {ret : Option FieldType}
    (hown : s.vm.findClass own = some m.cls) (hlink : (Cond.methodLink own index y).before args s = true) (hstat : (Cond.static y).before args s = true) (hinit : (Cond.initialized y.cls).before args s = true)
    (hcode : (Cond.code y bytes maxL ret).before args s = true) (hy : y.cls ≠ "java/lang/invoke/MethodHandle" ∧ y.cls ≠ "java/lang/invoke/VarHandle")
    {W9 : Nat} {Pre : Pt → Array Value → Prop} {Post : Pt → Array Value → Option Value → Pt → Prop} {PostX : Pt → Array Value → Addr → Pt → Prop} (hK : vx_Back l R p e below s args y 3 W9 Pre Post PostX)
    {g : JFrame} (hg : g.method = m) (hsize : g.locals.size = c.maxLocals) {argsL rest : List Value} (hlen : ∀ sig, parseMethodDescriptor y.desc = some sig → argsL.length = sig.parameters.length)
    (hstack : g.stack = argsL.reverse ++ rest) (hW : 2 * g.monitorRoom + (rest.map fun v => v.category).sum ≤ W9) (hdg : decode c.code g.pc = .ok (.invokestatic index, 3))
    (hpre : ∀ vm₁, s.WarmedH vm₁ → Pre ⟨T.setVm vm₁, locs, cells, slots⟩ argsL.toArray) :
    (∃ (v : Option Value) (vm₁ : Vm) (B : Pt), s.WarmedH vm₁ ∧ Stand p l e R s m args below meth c B.U B.locs B.cells B.slots ∧ Post ⟨T.setVm vm₁, locs, cells, slots⟩ argsL.toArray v B ∧
      ∀ target, Steps p.tables e below (B.U.setTop { g with pc := g.pc + 3, stack := v.toList ++ rest }) target → Steps p.tables e below (T.setTop g) target) ∨
    (∃ (q : Addr) (vm₁ : Vm) (B : Pt), s.WarmedH vm₁ ∧ Stand p l e R s m args below meth c B.U B.locs B.cells B.slots ∧ PostX ⟨T.setVm vm₁, locs, cells, slots⟩ argsL.toArray q B ∧
      Steps p.tables e below (T.setTop g) ((B.U.setTop { g with stack := rest }).pushFrame (.throwing q))) := by
  obtain ⟨mk, hnamed⟩ := Cond.code_named hcode
  obtain ⟨methM, cM, hmethM, -, -, -, -, -, -, hsigM⟩ := Cond.code_spec hnamed hcode
  have hstatic : methM.isStatic = true := Cond.static_spec hnamed hmethM hstat
  obtain ⟨kP, hkP, -⟩ := className_of_methodNamed hnamed
  have hinitP : kP.init = .initialized := Cond.initialized_spec (findClass_of_methodNamed hnamed) hkP hinit
  obtain ⟨vm₁, X₁, hstep₁⟩ := X.invokestatic hexec hown hlink hnamed hmethM hstatic hkP hinitP hy (g := g) hg (argsL := argsL) (rest := rest) (hlen _ hsigM) hstack hdg
  rcases hK m meth c ⟨T.setVm vm₁, locs, cells, slots⟩ { g with stack := rest } (.invokestatic index) mk argsL.toArray X₁ hg hsize hdg hW (X₁.named hnamed) (hpre vm₁ X₁.warmed) with ⟨v, B, X', hpost, hsteps⟩ | ⟨q, B, X', hpost, hsteps⟩
  · exact Or.inl ⟨v, vm₁, B, X₁.warmed, X', hpost, fun target h => hstep₁ _ fun acts => by rw [doInvoke_state]; exact hsteps.trans h⟩
  · exact Or.inr ⟨q, vm₁, B, X₁.warmed, X', hpost, hstep₁ _ fun acts => by rw [doInvoke_state]; exact hsteps⟩
end Calls
theorem vx_cls {s : State} {T : State} {vm₁ : Vm} {E : String} {k : ClassId} (hW : s.WarmedH vm₁) (h : (T.setVm vm₁).vm.findClass E = some k) : s.vm.findClass E = some k := by
  have h1 : vm₁.findClass E = some k := h
  rw [hW.alike.findClass] at h1
  exact h1
/-- the method's frame g, with q thrown over it -/
def vx_W (p : Program) (l : Launch) (e : Env) (R : Room) (s : State) (m : MethodId) (args : Array Value) (below : List Frame) (meth : Method) (c : Code) (H : Heap) (locs : List Loc) (cells slots : Nat) (Q : State → Prop) (g : JFrame) (q : Addr) : Prop :=
  ∀ T : State, T.heap = H → Stand p l e R s m args below meth c T locs cells slots → ∃ t, Steps p.tables e below ((T.setTop g).pushFrame (.throwing q)) t ∧ Q t
def vx_Run (p : Program) (l : Launch) (e : Env) (R : Room) (s : State) (m : MethodId) (args : Array Value) (below : List Frame) (meth : Method) (c : Code) (H : Heap) (locs : List Loc) (cells slots mc ms : Nat) (g : JFrame) (rest : List Value) (Qa : State → Outcome → State → Prop) (XC : String → State → State → Prop) (free : Addr → Prop) : Prop :=
  ∀ T : State, T.heap = H → Stand p l e R s m args below meth c T locs cells slots →
    (∃ (v : Option Value) (st₀ t T' : State) (L : List Loc), st₀.heap = H ∧ Stand p l e R s m args below meth c T' (locs ++ L) (cells + mc) (slots + ms) ∧ (∀ q ∈ L, free q.base) ∧ T'.heap = t.heap ∧ T'.vm = t.vm ∧ Qa st₀ (.returned v) t ∧
      Goes p e below T g T' { g with pc := g.pc + 3, stack := v.toList ++ rest }) ∨
    (∃ (q : Addr) (st₀ t T' : State) (L : List Loc) (E : String) (ce : Cell), st₀.heap = H ∧ Stand p l e R s m args below meth c T' (locs ++ L) (cells + mc) (slots + ms) ∧ (∀ z ∈ L, free z.base) ∧ T'.heap = t.heap ∧ T'.vm = t.vm ∧ XC E st₀ t ∧ t.heap[q]? = some ce ∧ ce.vm = .none ∧ s.vm.findClass E = some ce.cls ∧
      Steps p.tables e below (T.setTop g) ((T'.setTop { g with stack := rest }).pushFrame (.throwing q)))
def vx_X {S : Type} (px : S → Prop) (B : String → S → State → Prop) (A : Nat → Prop) : String → State → State → Prop := fun E st t => ∃ u : S, px u ∧ B E u t ∧ va_F A st t
section Runs
variable {p : Program} {l : Launch} {e : Env} {R : Room} {s : State} {m : MethodId} {args : Array Value} {below : List Frame} {meth : Method} {c : Code} {H : Heap} {locs : List Loc} {cells slots : Nat}
variable {y : MethodName} {bytes cc : ByteArray} {maxL nL mc ms n index : Nat} {ret : Option FieldType} {ws : List Cond} {rm : Room} {Pc : Array Value → State → Prop} {Qc : Array Value → State → Outcome → State → Prop} {XC : String → State → State → Prop} {free : Addr → Prop} {Ts : List Cond} {own C : String} {b : Addr} {As rest : List Value} {g : JFrame}
theorem vx_callBack (cb : CallB R s args own index y bytes maxL ret ws rm mc ms n) (hM : vx_Met l y ws rm Pc Qc XC mc ms free) (hbl : FrameBlind Pc) : vx_Back l R p e below s args y 3 8 (PreOf R mc ms Pc) (PostOf Qc mc ms free) (vx_Post XC mc ms free) := by
  obtain ⟨hrc, hrs, hfr, hlo, hws, hcw, -, hini, -⟩ := cb
  exact vx_back (bytes := bytes) (maxL := maxL) (ret := ret) hM hbl hrc hrs hfr hlo hws hcw (fun a' U hW => word_at hW (Or.inl (by first | rfl | simp [Cond.onTables, Cond.keeps, Cond.steady])) hini)
theorem vx_runV (S : CallFix p m c cc nL s args Ts own) (hM : vx_Met l y ws rm Pc Qc XC mc ms free) (cw : CallW R s args own C index y bytes maxL ret ws rm mc ms n) (hp : PreV s H C b Pc As)
    (hg : g.method = m) (hn : As.length = n) (hsize : g.locals.size = nL) (hstack : g.stack = As.reverse ++ .ref b :: rest) (hW : 2 * g.monitorRoom + (rest.map fun v => v.category).sum ≤ 8) (hdg : decode cc g.pc = .ok (.invokevirtual index, 3)) (hf : cells + mc ≤ R.cells ∧ slots + ms ≤ R.slots) :
    vx_Run p l e R s m args below meth c H locs cells slots mc ms g rest (Qc (Value.ref b :: As).toArray) XC free := by
  have hK : vx_Back l R p e below s args y 3 8 (PreOf R mc ms Pc) (PostOf Qc mc ms free) (vx_Post XC mc ms free) := vx_callBack cw.1 hM hp.1
  obtain ⟨⟨-, -, -, -, -, -, hcode, -, hy, hlen, hl⟩, hin, hse⟩ := cw
  obtain ⟨hx, hb, hml, ho, -⟩ := S
  obtain ⟨-, ⟨cellB, hcB, hoB, hclB⟩, hPc⟩ := hp
  intro T hT X
  rcases vx_callV X hx (C := C) (bytes := bytes) (maxL := maxL) (ret := ret) ho hl hin hse hcode hy hK (by rw [hT]; exact hcB) hoB hclB hg (hsize.trans hml.symm) (argsL := As) (rest := rest) (fun sig h => hn.trans (hlen sig h)) hstack hW (by rw [hb]; exact hdg)
    (fun vm₁ hW₁ => ⟨hf.1, hf.2, hPc (T.setVm vm₁) hT hW₁⟩) with ⟨v, vm₁, ⟨U', l2, c2, s2⟩, hW₁, X', ⟨g', mk, t, L, e1, e2, hq, h1, hL, h2, h3⟩, st⟩ | ⟨q, vm₁, ⟨U', l2, c2, s2⟩, hW₁, X', ⟨g', mk, t, L, E, ce, e1, e2, hq, hce, hcv, hcl, h1, hL, h2, h3⟩, st⟩
  · dsimp only [Pt.U, Pt.locs, Pt.cells, Pt.slots] at X' e1 e2 h1 h2 h3 st
    subst h1; subst h2; subst h3
    exact Or.inl ⟨v, (T.setVm vm₁).calling g' mk (Value.ref b :: As).toArray, t, U', L, hT, X', hL, e1, e2, hq, st⟩
  · dsimp only [Pt.U, Pt.locs, Pt.cells, Pt.slots] at X' e1 e2 h1 h2 h3 st hcl
    subst h1; subst h2; subst h3
    exact Or.inr ⟨q, (T.setVm vm₁).calling g' mk (Value.ref b :: As).toArray, t, U', L, E, ce, hT, X', hL, e1, e2, hq, hce, hcv, vx_cls hW₁ hcl, st⟩
theorem vx_runS (S : CallFix p m c cc nL s args Ts own) (hM : vx_Met l y ws rm Pc Qc XC mc ms free) (cw : CallB R s args own index y bytes maxL ret ws rm mc ms n ∧ (Cond.static y).before args s = true) (hp : PreS s H Pc As)
    (hg : g.method = m) (hn : As.length = n) (hsize : g.locals.size = nL) (hstack : g.stack = As.reverse ++ rest) (hW : 2 * g.monitorRoom + (rest.map fun v => v.category).sum ≤ 8) (hdg : decode cc g.pc = .ok (.invokestatic index, 3)) (hf : cells + mc ≤ R.cells ∧ slots + ms ≤ R.slots) :
    vx_Run p l e R s m args below meth c H locs cells slots mc ms g rest (Qc As.toArray) XC free := by
  have hK : vx_Back l R p e below s args y 3 8 (PreOf R mc ms Pc) (PostOf Qc mc ms free) (vx_Post XC mc ms free) := vx_callBack cw.1 hM hp.1
  obtain ⟨⟨-, -, -, -, -, -, hcode, hini, hy, hlen, hl⟩, hstt⟩ := cw
  obtain ⟨hx, hb, hml, ho, -⟩ := S
  intro T hT X
  rcases vx_callS X hx (bytes := bytes) (maxL := maxL) (ret := ret) ho hl hstt hini hcode hy hK hg (hsize.trans hml.symm) (argsL := As) (rest := rest) (fun sig h => hn.trans (hlen sig h)) hstack hW (by rw [hb]; exact hdg)
    (fun vm₁ hW₁ => ⟨hf.1, hf.2, hp.2 (T.setVm vm₁) hT hW₁⟩) with ⟨v, vm₁, ⟨U', l2, c2, s2⟩, hW₁, X', ⟨g', mk, t, L, e1, e2, hq, h1, hL, h2, h3⟩, st⟩ | ⟨q, vm₁, ⟨U', l2, c2, s2⟩, hW₁, X', ⟨g', mk, t, L, E, ce, e1, e2, hq, hce, hcv, hcl, h1, hL, h2, h3⟩, st⟩
  · dsimp only [Pt.U, Pt.locs, Pt.cells, Pt.slots] at X' e1 e2 h1 h2 h3 st
    subst h1; subst h2; subst h3
    exact Or.inl ⟨v, (T.setVm vm₁).calling g' mk As.toArray, t, U', L, hT, X', hL, e1, e2, hq, st⟩
  · dsimp only [Pt.U, Pt.locs, Pt.cells, Pt.slots] at X' e1 e2 h1 h2 h3 st hcl
    subst h1; subst h2; subst h3
    exact Or.inr ⟨q, (T.setVm vm₁).calling g' mk As.toArray, t, U', L, E, ce, hT, X', hL, e1, e2, hq, hce, hcv, vx_cls hW₁ hcl, st⟩
end Runs
section Rows
variable {p : Program} {l : Launch} {e : Env} {R : Room} {s : State} {m : MethodId} {args : Array Value} {below : List Frame} {meth : Method} {c : Code} {H : Heap} {locs : List Loc} {cells slots : Nat} {Q : State → Prop}
variable {mc ms : Nat} {free : Addr → Prop} {A0 A1 : Nat → Prop} {H0 : Heap} {a : Array Value} {pc : Nat} {ls : Array Slot} {st0 rest : List Value}
theorem vx_keep {st₀ t T' : State} {L : List Loc} (h0 : st₀.heap = H) (e1 : T'.heap = t.heap) (hS : va_S A0 H0 H locs) (hA : ∀ q, q < H.size → A1 q → A0 q) (hf : ∀ q, free q → A0 q) (hL : ∀ q ∈ L, free q.base) (hF : va_F A1 st₀ t) :
    H.size ≤ T'.heap.size ∧ (∀ q : Nat, q < H.size → ¬ A1 q → T'.heap[q]? = H[q]?) ∧ va_S A0 H0 T'.heap (locs ++ L) := by
  obtain ⟨hz, hk⟩ := hF
  rw [h0] at hz hk
  exact ⟨by rw [e1]; exact hz, fun q h1 h2 => by rw [e1]; exact hk q h1 h2,
    ⟨Nat.le_trans hS.1 (by rw [e1]; exact hz), fun q h1 h2 => by rw [e1, hk q (Nat.lt_of_lt_of_le h1 hS.1) (fun z => h2 (hA q (Nat.lt_of_lt_of_le h1 hS.1) z))]; exact hS.2.1 q h1 h2, fun q hq => by
      rcases List.mem_append.mp hq with h | h
      · exact hS.2.2 q h
      · exact hf _ (hL q h)⟩⟩
theorem vx_calli {S SX : Type} {post : Int32 → S → Prop} {px : SX → Prop} {B : S → State → Prop} {BX : String → SX → State → Prop} {AX : Nat → Prop} (hr : vx_Run p l e R s m args below meth c H locs cells slots mc ms (F0 m pc ls st0) rest (va_Qi post B A1 a) (vx_X px BX AX) free) (hS : va_S A0 H0 H locs) (hA : ∀ q, q < H.size → A1 q → A0 q) (hf : ∀ q, free q → A0 q) (hAX : ∀ q, q < H.size → AX q → A0 q)
    (kx : ∀ (E : String) (ce : Cell) (q9 : Addr) (u : SX) (t : State) (H1 : Heap) (locs1 : List Loc), t.heap = H1 → s.vm.Alike t.vm → px u → BX E u t → H.size ≤ H1.size → (∀ q : Nat, q < H.size → ¬ AX q → H1[q]? = H[q]?) → va_S A0 H0 H1 locs1 → H1[q9]? = some ce → ce.vm = .none → s.vm.findClass E = some ce.cls → vx_W p l e R s m args below meth c H1 locs1 (cells + mc) (slots + ms) Q (F0 m pc ls rest) q9)
    (kk : ∀ (r : Int32) (u : S) (t : State) (H1 : Heap) (locs1 : List Loc), t.heap = H1 → s.vm.Alike t.vm → post r u → B u t → H.size ≤ H1.size → (∀ q : Nat, q < H.size → ¬ A1 q → H1[q]? = H[q]?) → va_S A0 H0 H1 locs1 → W p l e R s m args below meth c H1 locs1 (cells + mc) (slots + ms) Q (F0 m (pc + 3) ls (.int r :: rest))) : W p l e R s m args below meth c H locs cells slots Q (F0 m pc ls st0) := by
  intro T hT X
  rcases hr T hT X with ⟨v, st₀, t, T', L, h0, X', hL, e1, e2, ⟨⟨r, u, hv, hp, hb⟩, hF⟩, st⟩ | ⟨q, st₀, t, T', L, E, ce, h0, X', hL, e1, e2, ⟨u, hp, hb, hF⟩, hce, hcv, hcl, st⟩
  · cases hv
    obtain ⟨k1, k2, k3⟩ := vx_keep h0 e1 hS hA hf hL hF
    obtain ⟨t2, a1, b1⟩ := kk r u t T'.heap (locs ++ L) e1.symm (by rw [← e2]; exact X'.warmed.alike) hp hb k1 k2 k3 T' rfl X'
    exact ⟨t2, st t2 a1, b1⟩
  · obtain ⟨k1, k2, k3⟩ := vx_keep h0 e1 hS hAX hf hL hF
    obtain ⟨t2, a1, b1⟩ := kx E ce q u t T'.heap (locs ++ L) e1.symm (by rw [← e2]; exact X'.warmed.alike) hp hb k1 k2 k3 (by rw [e1]; exact hce) hcv hcl T' rfl X'
    exact ⟨t2, st.trans a1, b1⟩
theorem vx_calll {S SX : Type} {post : Int64 → S → Prop} {px : SX → Prop} {B : S → State → Prop} {BX : String → SX → State → Prop} {AX : Nat → Prop} (hr : vx_Run p l e R s m args below meth c H locs cells slots mc ms (F0 m pc ls st0) rest (va_Ql post B A1 a) (vx_X px BX AX) free) (hS : va_S A0 H0 H locs) (hA : ∀ q, q < H.size → A1 q → A0 q) (hf : ∀ q, free q → A0 q) (hAX : ∀ q, q < H.size → AX q → A0 q)
    (kx : ∀ (E : String) (ce : Cell) (q9 : Addr) (u : SX) (t : State) (H1 : Heap) (locs1 : List Loc), t.heap = H1 → s.vm.Alike t.vm → px u → BX E u t → H.size ≤ H1.size → (∀ q : Nat, q < H.size → ¬ AX q → H1[q]? = H[q]?) → va_S A0 H0 H1 locs1 → H1[q9]? = some ce → ce.vm = .none → s.vm.findClass E = some ce.cls → vx_W p l e R s m args below meth c H1 locs1 (cells + mc) (slots + ms) Q (F0 m pc ls rest) q9)
    (kk : ∀ (r : Int64) (u : S) (t : State) (H1 : Heap) (locs1 : List Loc), t.heap = H1 → s.vm.Alike t.vm → post r u → B u t → H.size ≤ H1.size → (∀ q : Nat, q < H.size → ¬ A1 q → H1[q]? = H[q]?) → va_S A0 H0 H1 locs1 → W p l e R s m args below meth c H1 locs1 (cells + mc) (slots + ms) Q (F0 m (pc + 3) ls (.long r :: rest))) : W p l e R s m args below meth c H locs cells slots Q (F0 m pc ls st0) := by
  intro T hT X
  rcases hr T hT X with ⟨v, st₀, t, T', L, h0, X', hL, e1, e2, ⟨⟨r, u, hv, hp, hb⟩, hF⟩, st⟩ | ⟨q, st₀, t, T', L, E, ce, h0, X', hL, e1, e2, ⟨u, hp, hb, hF⟩, hce, hcv, hcl, st⟩
  · cases hv
    obtain ⟨k1, k2, k3⟩ := vx_keep h0 e1 hS hA hf hL hF
    obtain ⟨t2, a1, b1⟩ := kk r u t T'.heap (locs ++ L) e1.symm (by rw [← e2]; exact X'.warmed.alike) hp hb k1 k2 k3 T' rfl X'
    exact ⟨t2, st t2 a1, b1⟩
  · obtain ⟨k1, k2, k3⟩ := vx_keep h0 e1 hS hAX hf hL hF
    obtain ⟨t2, a1, b1⟩ := kx E ce q u t T'.heap (locs ++ L) e1.symm (by rw [← e2]; exact X'.warmed.alike) hp hb k1 k2 k3 (by rw [e1]; exact hce) hcv hcl T' rfl X'
    exact ⟨t2, st.trans a1, b1⟩
theorem vx_callf {S SX : Type} {post : UInt32 → S → Prop} {px : SX → Prop} {B : S → State → Prop} {BX : String → SX → State → Prop} {AX : Nat → Prop} (hr : vx_Run p l e R s m args below meth c H locs cells slots mc ms (F0 m pc ls st0) rest (va_Qf post B A1 a) (vx_X px BX AX) free) (hS : va_S A0 H0 H locs) (hA : ∀ q, q < H.size → A1 q → A0 q) (hf : ∀ q, free q → A0 q) (hAX : ∀ q, q < H.size → AX q → A0 q)
    (kx : ∀ (E : String) (ce : Cell) (q9 : Addr) (u : SX) (t : State) (H1 : Heap) (locs1 : List Loc), t.heap = H1 → s.vm.Alike t.vm → px u → BX E u t → H.size ≤ H1.size → (∀ q : Nat, q < H.size → ¬ AX q → H1[q]? = H[q]?) → va_S A0 H0 H1 locs1 → H1[q9]? = some ce → ce.vm = .none → s.vm.findClass E = some ce.cls → vx_W p l e R s m args below meth c H1 locs1 (cells + mc) (slots + ms) Q (F0 m pc ls rest) q9)
    (kk : ∀ (r : UInt32) (u : S) (t : State) (H1 : Heap) (locs1 : List Loc), t.heap = H1 → s.vm.Alike t.vm → post r u → B u t → H.size ≤ H1.size → (∀ q : Nat, q < H.size → ¬ A1 q → H1[q]? = H[q]?) → va_S A0 H0 H1 locs1 → W p l e R s m args below meth c H1 locs1 (cells + mc) (slots + ms) Q (F0 m (pc + 3) ls (.float r :: rest))) : W p l e R s m args below meth c H locs cells slots Q (F0 m pc ls st0) := by
  intro T hT X
  rcases hr T hT X with ⟨v, st₀, t, T', L, h0, X', hL, e1, e2, ⟨⟨r, u, hv, hp, hb⟩, hF⟩, st⟩ | ⟨q, st₀, t, T', L, E, ce, h0, X', hL, e1, e2, ⟨u, hp, hb, hF⟩, hce, hcv, hcl, st⟩
  · cases hv
    obtain ⟨k1, k2, k3⟩ := vx_keep h0 e1 hS hA hf hL hF
    obtain ⟨t2, a1, b1⟩ := kk r u t T'.heap (locs ++ L) e1.symm (by rw [← e2]; exact X'.warmed.alike) hp hb k1 k2 k3 T' rfl X'
    exact ⟨t2, st t2 a1, b1⟩
  · obtain ⟨k1, k2, k3⟩ := vx_keep h0 e1 hS hAX hf hL hF
    obtain ⟨t2, a1, b1⟩ := kx E ce q u t T'.heap (locs ++ L) e1.symm (by rw [← e2]; exact X'.warmed.alike) hp hb k1 k2 k3 (by rw [e1]; exact hce) hcv hcl T' rfl X'
    exact ⟨t2, st.trans a1, b1⟩
theorem vx_calld {S SX : Type} {post : UInt64 → S → Prop} {px : SX → Prop} {B : S → State → Prop} {BX : String → SX → State → Prop} {AX : Nat → Prop} (hr : vx_Run p l e R s m args below meth c H locs cells slots mc ms (F0 m pc ls st0) rest (va_Qd post B A1 a) (vx_X px BX AX) free) (hS : va_S A0 H0 H locs) (hA : ∀ q, q < H.size → A1 q → A0 q) (hf : ∀ q, free q → A0 q) (hAX : ∀ q, q < H.size → AX q → A0 q)
    (kx : ∀ (E : String) (ce : Cell) (q9 : Addr) (u : SX) (t : State) (H1 : Heap) (locs1 : List Loc), t.heap = H1 → s.vm.Alike t.vm → px u → BX E u t → H.size ≤ H1.size → (∀ q : Nat, q < H.size → ¬ AX q → H1[q]? = H[q]?) → va_S A0 H0 H1 locs1 → H1[q9]? = some ce → ce.vm = .none → s.vm.findClass E = some ce.cls → vx_W p l e R s m args below meth c H1 locs1 (cells + mc) (slots + ms) Q (F0 m pc ls rest) q9)
    (kk : ∀ (r : UInt64) (u : S) (t : State) (H1 : Heap) (locs1 : List Loc), t.heap = H1 → s.vm.Alike t.vm → post r u → B u t → H.size ≤ H1.size → (∀ q : Nat, q < H.size → ¬ A1 q → H1[q]? = H[q]?) → va_S A0 H0 H1 locs1 → W p l e R s m args below meth c H1 locs1 (cells + mc) (slots + ms) Q (F0 m (pc + 3) ls (.double r :: rest))) : W p l e R s m args below meth c H locs cells slots Q (F0 m pc ls st0) := by
  intro T hT X
  rcases hr T hT X with ⟨v, st₀, t, T', L, h0, X', hL, e1, e2, ⟨⟨r, u, hv, hp, hb⟩, hF⟩, st⟩ | ⟨q, st₀, t, T', L, E, ce, h0, X', hL, e1, e2, ⟨u, hp, hb, hF⟩, hce, hcv, hcl, st⟩
  · cases hv
    obtain ⟨k1, k2, k3⟩ := vx_keep h0 e1 hS hA hf hL hF
    obtain ⟨t2, a1, b1⟩ := kk r u t T'.heap (locs ++ L) e1.symm (by rw [← e2]; exact X'.warmed.alike) hp hb k1 k2 k3 T' rfl X'
    exact ⟨t2, st t2 a1, b1⟩
  · obtain ⟨k1, k2, k3⟩ := vx_keep h0 e1 hS hAX hf hL hF
    obtain ⟨t2, a1, b1⟩ := kx E ce q u t T'.heap (locs ++ L) e1.symm (by rw [← e2]; exact X'.warmed.alike) hp hb k1 k2 k3 (by rw [e1]; exact hce) hcv hcl T' rfl X'
    exact ⟨t2, st.trans a1, b1⟩
theorem vx_callv {S SX : Type} {post : S → Prop} {px : SX → Prop} {B : S → State → Prop} {BX : String → SX → State → Prop} {AX : Nat → Prop} (hr : vx_Run p l e R s m args below meth c H locs cells slots mc ms (F0 m pc ls st0) rest (va_Qv post B A1 a) (vx_X px BX AX) free) (hS : va_S A0 H0 H locs) (hA : ∀ q, q < H.size → A1 q → A0 q) (hf : ∀ q, free q → A0 q) (hAX : ∀ q, q < H.size → AX q → A0 q)
    (kx : ∀ (E : String) (ce : Cell) (q9 : Addr) (u : SX) (t : State) (H1 : Heap) (locs1 : List Loc), t.heap = H1 → s.vm.Alike t.vm → px u → BX E u t → H.size ≤ H1.size → (∀ q : Nat, q < H.size → ¬ AX q → H1[q]? = H[q]?) → va_S A0 H0 H1 locs1 → H1[q9]? = some ce → ce.vm = .none → s.vm.findClass E = some ce.cls → vx_W p l e R s m args below meth c H1 locs1 (cells + mc) (slots + ms) Q (F0 m pc ls rest) q9)
    (kk : ∀ (u : S) (t : State) (H1 : Heap) (locs1 : List Loc), t.heap = H1 → s.vm.Alike t.vm → post u → B u t → H.size ≤ H1.size → (∀ q : Nat, q < H.size → ¬ A1 q → H1[q]? = H[q]?) → va_S A0 H0 H1 locs1 → W p l e R s m args below meth c H1 locs1 (cells + mc) (slots + ms) Q (F0 m (pc + 3) ls (rest))) : W p l e R s m args below meth c H locs cells slots Q (F0 m pc ls st0) := by
  intro T hT X
  rcases hr T hT X with ⟨v, st₀, t, T', L, h0, X', hL, e1, e2, ⟨⟨u, hv, hp, hb⟩, hF⟩, st⟩ | ⟨q, st₀, t, T', L, E, ce, h0, X', hL, e1, e2, ⟨u, hp, hb, hF⟩, hce, hcv, hcl, st⟩
  · cases hv
    obtain ⟨k1, k2, k3⟩ := vx_keep h0 e1 hS hA hf hL hF
    obtain ⟨t2, a1, b1⟩ := kk u t T'.heap (locs ++ L) e1.symm (by rw [← e2]; exact X'.warmed.alike) hp hb k1 k2 k3 T' rfl X'
    exact ⟨t2, st t2 a1, b1⟩
  · obtain ⟨k1, k2, k3⟩ := vx_keep h0 e1 hS hAX hf hL hF
    obtain ⟨t2, a1, b1⟩ := kx E ce q u t T'.heap (locs ++ L) e1.symm (by rw [← e2]; exact X'.warmed.alike) hp hb k1 k2 k3 (by rw [e1]; exact hce) hcv hcl T' rfl X'
    exact ⟨t2, st.trans a1, b1⟩
/-- caught by the row x of this method's table; the rows ahead don't take it -/
theorem vx_catch {own name : String} {E : String} {ce : Cell} {q : Addr} (hown : s.vm.findClass own = some m.cls) (pre : List ExceptionTableEntry) (x : ExceptionTableEntry) (suf : List ExceptionTableEntry) (hsplit : c.exceptionTable.toList = pre ++ x :: suf)
    (hpass : ∀ z ∈ pre, covers z pc = false ∨ (z.catchType ≠ 0 ∧ ∃ nm : String, (Cond.classLink own z.catchType nm).before args s = true ∧ va_Nc E nm s)) (hx : covers x pc = true) (h0 : x.catchType ≠ 0)
    (hlink : (Cond.classLink own x.catchType name).before args s = true) (hcast : (Cond.castable E name).before args s = true) (hcell : H[q]? = some ce) (hv : ce.vm = .none) (hcl : s.vm.findClass E = some ce.cls)
    (kk : W p l e R s m args below meth c H locs cells slots Q (F0 m x.handlerPc ls [.ref q])) : vx_W p l e R s m args below meth c H locs cells slots Q (F0 m pc ls rest) q := by
  intro T hT X
  have hpl : e.platform.magicAccessors = ({} : Platform).magicAccessors := by rw [X.admits.platform]
  obtain ⟨c3, c4, hc3, hc4, hasg⟩ := Cond.castable_spec hcast
  cases Option.some.inj (hc3.symm.trans hcl)
  obtain ⟨c5, hc5, hcl5⟩ := Cond.classLink_spec hown hlink e.platform hpl
  cases Option.some.inj (hc4.symm.trans hc5)
  obtain ⟨vm', X', st⟩ := X.thenCaughtThrough q (g := F0 m pc ls rest) rfl (Steps.refl _) (by rw [hT]; exact hcell) (by rw [hv]; rfl) (by obtain ⟨k9, h9, -⟩ := Vm.findClass_spec hcl; exact ⟨k9, h9⟩) pre x suf hsplit
    (fun z hz => by
      rcases hpass z hz with h | ⟨hz0, nm, hl1, hn1⟩
      · exact Or.inl h
      · obtain ⟨c6, hc6, hcl6⟩ := Cond.classLink_spec hown hl1 e.platform hpl
        obtain ⟨a8, b8, h1, h2, h3⟩ := hn1
        cases Option.some.inj (h1.symm.trans hcl)
        cases Option.some.inj (h2.symm.trans hc6)
        exact Or.inr ⟨hz0, _, hcl6, h3⟩) hx (Or.inr ⟨h0, c4, hcl5, hasg⟩)
  obtain ⟨t, a1, b1⟩ := kk (T.setVm vm') hT X'
  exact ⟨t, st.trans a1, b1⟩
end Rows
section Ends
variable {p : Program} {l : Launch} {e : Env} {R : Room} {s : State} {m : MethodId} {args : Array Value} {below : List Frame} {meth : Method} {c : Code} {H : Heap} {locs : List Loc} {cells slots : Nat} {Q : State → Prop}
variable {mc ms : Nat} {free : Addr → Prop} {A0 A1 : Nat → Prop} {H0 : Heap} {a : Array Value} {ls : Array Slot} {st0 rest : List Value}
variable {Qc : Array Value → State → Outcome → State → Prop} {XC : String → State → State → Prop}
/-- what a body that may throw owes at its end -/
def vx_MQ (below : List Frame) (Qc : Array Value → State → Outcome → State → Prop) (XC : String → State → State → Prop) (a : Array Value) (s : State) (mc ms : Nat) (free : Addr → Prop) : State → Prop := fun t =>
  ∃ o, t.status = .running ∧ Ended t below o ∧ vx_Q Qc XC mc ms free a s o t
theorem vx_ret {g : JFrame} {mc ms : Nat} (k : W p l e R s m args below meth c H locs cells slots (MQ below Qc args s mc ms free) g) : W p l e R s m args below meth c H locs cells slots (vx_MQ below Qc XC args s mc ms free) g := by
  intro T hT X
  obtain ⟨t, a1, o, b1, b2, b3, b4⟩ := k T hT X
  exact ⟨t, a1, o, b1, b2, Or.inl ⟨b3, b4⟩⟩
/-- not caught here: it goes on to the caller -/
theorem vx_widen {g : JFrame} {q : Addr} {k n : Nat} (h1 : cells ≤ k) (h2 : slots ≤ n) (kk : vx_W p l e R s m args below meth c H locs k n Q g q) : vx_W p l e R s m args below meth c H locs cells slots Q g q := fun T hT X => kk T hT (stand_widen X h1 h2)
theorem vx_out {pc : Nat} {E : String} {ce : Cell} {q : Addr} {mc ms : Nat} (hout : ∀ x ∈ c.exceptionTable.toList, covers x pc = false) (hlocks : meth.locks = false) (hcell : H[q]? = some ce) (hv : ce.vm = .none) (hcl : s.vm.findClass E = some ce.cls)
    (hx : ∀ t : State, t.heap = H → s.vm.Alike t.vm → XC E s t) (hf : ∀ z ∈ locs, free z.base) (hc : cells ≤ mc) (hs : slots ≤ ms) :
    vx_W p l e R s m args below meth c H locs cells slots (vx_MQ below Qc XC args s mc ms free) (F0 m pc ls rest) q := by
  intro T hT X
  obtain ⟨st1, hrun, hend, hW, hsm⟩ := X.leaveThrown q (g := F0 m pc ls rest) rfl rfl rfl hout hlocks
  have hcell9 : (T.setFrames (.throwing q :: below)).heap[q]? = some ce := by
    show T.heap[q]? = some ce
    rw [hT]; exact hcell
  exact ⟨_, st1, .threw q, hrun, hend, Or.inr ⟨q, rfl, E, ce, locs, hx _ hT hW.alike, hcell9, hv, hcl, hW, hsm.mono hc hs, hf⟩⟩
theorem vx_frame {U : State} {k n : Nat} (h : s.sameButNew ({ U with vm := s.vm } : State) locs k n) : s.heap.size ≤ U.heap.size ∧ ∀ q : Nat, q < s.heap.size → (∀ z ∈ locs, z.base ≠ q) → U.heap[q]? = s.heap[q]? := by
  obtain ⟨-, h2, -, -, -, h6⟩ := h
  refine ⟨h2, fun q hq hz => ?_⟩
  obtain ⟨c9, e1, e2, e3, e4⟩ := h6 q _ (Array.getElem?_eq_getElem hq)
  have hs : c9.slots = (s.heap[q]).slots := Array.ext_getElem? fun i => e4 i fun hm => hz _ hm rfl
  have h9 : c9 = s.heap[q] := by
    rw [hs] at e2
    exact e2
  have e5 : U.heap[q]? = some c9 := e1
  rw [e5, h9, Array.getElem?_eq_getElem hq]
/-- the words of a throw but the four that speak of the heap -/
def vx_no (w : Cond) : Bool := decide (w ≠ .isRef (.static Bundle.tN "UNASSIGNED_STACK" Bundle.steD)) && decide (w ≠ .isRef (.static Bundle.tN "SUPPRESSED_SENTINEL" Bundle.listD)) && decide (w ≠ .laysStatic Bundle.tN "UNASSIGNED_STACK" Bundle.steD) && decide (w ≠ .laysStatic Bundle.tN "SUPPRESSED_SENTINEL" Bundle.listD)
def vx_at0 (own : String) (ic : Nat) (X : String) (names : List String) : List Cond := (Bundle.ownAtoms0 own ic X names).filter vx_no
def vx_atS (own : String) (ic : Nat) (X : String) (names : List String) : List Cond := (Bundle.ownAtoms own ic X names).filter vx_no
/-- a word that the tables alone decide, or a good one -/
def vx_ot (w : Cond) : Bool := w.onTables || goodWord w
theorem vx_ot_at {args a' : Array Value} {s U : State} {w : Cond} (hW : s.WarmedH U.vm) (hvm : s.vm = U.vm) (hg : vx_ot w = true) (h : w.before args s = true) : w.before a' U = true := by
  simp only [vx_ot, Bool.or_eq_true] at hg
  rcases hg with hg | hg
  · exact va_tabs hg hvm h
  · exact word_at hW (good_of_word hg) h
/-- a list's words: the good ones out of the method's own list, the others by premises of their own -/
theorem vx_hat {args : Array Value} {s : State} {L B : List Cond} (h1 : ∀ w ∈ L.filter goodWord, w.before args s = true) (h2 : ∀ w ∈ L.filter (fun w => !goodWord w), w ∈ B) (h3 : ∀ w ∈ B, w.before args s = true) : ∀ w ∈ L, w.before args s = true := by
  intro w hw
  by_cases g : goodWord w = true
  · exact h1 w (List.mem_filter.mpr ⟨hw, g⟩)
  · refine h3 w (h2 w (List.mem_filter.mpr ⟨hw, ?_⟩))
    show (!goodWord w) = true
    cases hgw : goodWord w
    · rfl
    · exact absurd hgw g
theorem vx_c {args : Array Value} {s : State} {w : Cond} {B : List Cond} (h : w.before args s = true) (t : ∀ w ∈ B, w.before args s = true) : ∀ w' ∈ w :: B, w'.before args s = true := fun w' h' => (List.mem_cons.mp h').elim (fun e => by rw [e]; exact h) (t w')
theorem vx_n {args : Array Value} {s : State} : ∀ w ∈ ([] : List Cond), w.before args s = true := fun _ h => nomatch h
theorem vx_own {args : Array Value} {s : State} {L : List Cond} (h1 : ∀ w ∈ L.filter vx_no, w.before args s = true)
    (hU : (Cond.isRef (.static Bundle.tN "UNASSIGNED_STACK" Bundle.steD)).before args s = true) (hN : (Cond.isRef (.static Bundle.tN "SUPPRESSED_SENTINEL" Bundle.listD)).before args s = true)
    (lU : (Cond.laysStatic Bundle.tN "UNASSIGNED_STACK" Bundle.steD).before args s = true) (lN : (Cond.laysStatic Bundle.tN "SUPPRESSED_SENTINEL" Bundle.listD).before args s = true) : ∀ w ∈ L, w.before args s = true := by
  intro w hw
  by_cases e1 : w = .isRef (.static Bundle.tN "UNASSIGNED_STACK" Bundle.steD)
  · rw [e1]; exact hU
  · by_cases e2 : w = .isRef (.static Bundle.tN "SUPPRESSED_SENTINEL" Bundle.listD)
    · rw [e2]; exact hN
    · by_cases e3 : w = .laysStatic Bundle.tN "UNASSIGNED_STACK" Bundle.steD
      · rw [e3]; exact lU
      · by_cases e4 : w = .laysStatic Bundle.tN "SUPPRESSED_SENTINEL" Bundle.listD
        · rw [e4]; exact lN
        · exact h1 w (List.mem_filter.mpr ⟨hw, by unfold vx_no; rw [decide_eq_true e1, decide_eq_true e2, decide_eq_true e3, decide_eq_true e4]; rfl⟩)
/-- where a static field lies, its class's statics cell in H -/
def vx_L (C n d : String) (A : Nat → Prop) (U : State) (H : Heap) : Prop := ∃ (c : ClassId) (k : Class) (i : Nat) (f : Field) (a : Nat) (cell : Cell), U.vm.findClass C = some c ∧ U.fieldFound? C n d = some (c, k, i, f) ∧ f.isStatic = true ∧ k.statics = some a ∧ H[a]? = some cell ∧ cell.vm.isStatics = true ∧ cell.cls = c ∧ f.slot < cell.slots.size ∧ k.staticTypes[f.slot]? = some f.type ∧ ¬ A a
theorem vx_L.moved {C n d : String} {A : Nat → Prop} {u U : State} {H : Heap} (hvm : u.vm.Alike U.vm) (h : vx_L C n d A u H) : vx_L C n d A U H := by
  obtain ⟨c, k, i, f, a, cell, h1, h2, h3, h4, h5, h6, h7, h8, h9, h10⟩ := h
  obtain ⟨k', hi', he⟩ := State.fieldFound?_setVm hvm h2
  exact ⟨c, k', i, f, a, cell, by rw [hvm.findClass]; exact h1, hi', h3, by rw [he]; exact h4, h5, h6, h7, h8, by rw [he]; exact h9, h10⟩
theorem vx_L.kept {C n d : String} {A : Nat → Prop} {U : State} {H H1 : Heap} (h : vx_L C n d A U H) (hq : ∀ a : Nat, a < H.size → ¬ A a → H1[a]? = H[a]?) : vx_L C n d A U H1 := by
  obtain ⟨c, k, i, f, a, cell, h1, h2, h3, h4, h5, h6, h7, h8, h9, h10⟩ := h
  exact ⟨c, k, i, f, a, cell, h1, h2, h3, h4, by rw [hq a (Array.getElem?_eq_some_iff.mp h5).1 h10]; exact h5, h6, h7, h8, h9, h10⟩
theorem vx_L.narrow {C n d : String} {A B : Nat → Prop} {U : State} {H : Heap} (h : vx_L C n d A U H) (hAB : ∀ q, B q → A q) : vx_L C n d B U H := by
  obtain ⟨c, k, i, f, a, cell, h1, h2, h3, h4, h5, h6, h7, h8, h9, h10⟩ := h
  exact ⟨c, k, i, f, a, cell, h1, h2, h3, h4, h5, h6, h7, h8, h9, fun z => h10 (hAB _ z)⟩
theorem vx_L.word {C n d : String} {A : Nat → Prop} {s : State} {args : Array Value} (h : vx_L C n d A s s.heap) : (Cond.laysStatic C n d).before args s = true := by
  obtain ⟨c, k, i, f, a, cell, h1, h2, h3, h4, h5, h6, h7, h8, h9, -⟩ := h
  show (Cond.laysStatic C n d).holds args s none s [] = true
  exact Cond.laysStatic_of h1 h2 h3 h4 h5 h6 h7 h8 h9
/-- .. and what it holds: null or some reference -/
def vx_Zq (C n d : String) (A : Nat → Prop) (U : State) (H : Heap) : Prop := va_Zq C n d A U H ∧ vx_L C n d A U H
theorem vx_Zq.moved {C n d : String} {A : Nat → Prop} {u U : State} {H : Heap} (hvm : u.vm.Alike U.vm) (h : vx_Zq C n d A u H) : vx_Zq C n d A U H := ⟨va_Zq.moved hvm h.1, vx_L.moved hvm h.2⟩
theorem vx_Zq.kept {C n d : String} {A : Nat → Prop} {U : State} {H H1 : Heap} (h : vx_Zq C n d A U H) (hq : ∀ a : Nat, a < H.size → ¬ A a → H1[a]? = H[a]?) : vx_Zq C n d A U H1 := ⟨va_Zq.kept h.1 hq, vx_L.kept h.2 hq⟩
theorem vx_Zq.narrow {C n d : String} {A B : Nat → Prop} {U : State} {H : Heap} (h : vx_Zq C n d A U H) (hAB : ∀ q, B q → A q) : vx_Zq C n d B U H := ⟨va_Zq.narrow h.1 hAB, vx_L.narrow h.2 hAB⟩
theorem vx_Zqof {args : Array Value} {s : State} {C n d : String} {A : Nat → Prop} (hl : (Cond.laysStatic C n d).before args s = true) (hini : (Cond.initialized C).before args s = true) (h : (Cond.isRef (.static C n d)).before args s = true) (hA : ∀ a : Nat, a < s.heap.size → ¬ A a) : vx_Zq C n d A s s.heap := by
  refine ⟨va_Zqof hl hini h hA, ?_⟩
  obtain ⟨c, k, i, f, a, cell, h1, h2, h3, h4, h5, h6, h7, h8, h9⟩ := Cond.laysStatic_spec hl
  exact ⟨c, k, i, f, a, cell, h1, h2, h3, h4, h5, h6, h7, h8, h9, hA a (Array.getElem?_eq_some_iff.mp h5).1⟩
theorem vx_isRef {C n d : String} {v : Value} {A : Nat → Prop} {s : State} {args : Array Value} (h : va_Z C n d v A s s.heap) (hv : v.isRef = true) : (Cond.isRef (.static C n d)).before args s = true := by
  obtain ⟨cf, kf, fi, f, a, cell, h1, h2, h3, h4, h5, h6, h7, -⟩ := h
  have he : (Term.static C n d).eval args s none [] s = some v := by
    simp [Term.eval, State.fieldNamed?, h1, h2, h4, h5, h6, h7]
  simp only [Cond.before, Cond.holds, Cond.value, he]
  cases v <;> simp_all [Value.isRef]
theorem vx_isRefq {C n d : String} {A : Nat → Prop} {s : State} {args : Array Value} (h : va_Zq C n d A s s.heap) : (Cond.isRef (.static C n d)).before args s = true := by
  rcases h with h | ⟨t, h⟩
  · exact vx_isRef h rfl
  · exact vx_isRef h rfl
/-- the same frame, seen from here: as if the method were called anew in this heap -/
theorem vx_rebase {T : State} (X : Stand p l e R s m args below meth c T locs cells slots) {R' : Room} (hf : R'.frames ≤ R.frames) (hl : R'.locals ≤ R.locals) (hc : cells + R'.cells ≤ R.cells) (hs : slots + R'.slots ≤ R.slots) :
    Stand p l e R' ((T.setVm s.vm).setFrames (.invoking m args :: below)) m args below meth c T [] 0 0 := by
  have htop : (T.setVm s.vm).topJava?.isSome := X.here.top
  have hF : ((T.setVm s.vm).setFrames (.invoking m args :: below)).frames = .invoking m args :: below := State.frames_setFrames _ (State.cur_lt_of_top htop)
  obtain ⟨g₀, hg0⟩ := Option.isSome_iff_exists.mp htop
  obtain ⟨r, hr⟩ := State.topJava?_eq_some.mp hg0
  have hl9 : e.platform.stackLimits (T.setVm s.vm).me = e.platform.stackLimits s.me := X.limits
  have hb9 : (T.setVm s.vm).me.stackBytes = s.me.stackBytes := X.bytes
  refine ⟨X.admits, X.cas, X.clock, hF, ?_, X.hears, X.method, X.code, X.here, X.tail, X.warmed, ?_, ?_, ?_⟩
  · have h := X.room
    have hU : ((T.setVm s.vm).setFrames (.invoking m args :: below)).localsInUse = s.localsInUse := by
      rw [State.localsInUse_invoking hF (meth := meth) (c := c) X.method X.code, State.localsInUse_invoking X.frames X.method X.code]
    simp only [State.hasRoom, Bool.and_eq_true, decide_eq_true_eq] at h ⊢
    obtain ⟨⟨⟨⟨h1, h2, h3, h4, h5, h6⟩, h7⟩, h8⟩, h9⟩ := h
    rw [X.frames, List.length_cons] at h2 h3
    have q1 := X.heapSize
    have q2 := X.used
    simp only [hF, hU, List.length_cons, State.stackLimits_setFrames, State.stackBytes_setFrames, hl9, hb9]
    refine ⟨⟨⟨⟨by omega, by omega, by omega, by omega, by omega, h6⟩, ?_⟩, ?_⟩, X.book⟩
    · show T.heap.size + R'.cells ≤ e.platform.maxCells
      omega
    · show T.slotsUsed + R'.slots ≤ e.platform.maxSlots
      omega
  · rw [State.stackLimits_setFrames]; rfl
  · rw [State.stackBytes_setFrames]; rfl
  · refine ⟨?_, Nat.le_refl _, Nat.le_refl _, ?_, ?_, fun a c9 h9 => ⟨c9, h9, rfl, rfl, fun _ _ => rfl⟩⟩
    · obtain ⟨t, ht, -⟩ := State.frames_cons hr
      show T.setVm s.vm = { ((T.setVm s.vm).setFrames (.invoking m args :: below)).setFrames (T.setVm s.vm).frames with heap := T.heap, slotsUsed := T.slotsUsed }
      rw [State.setFrames_setFrames, State.setFrames_self ht]
      rfl
    · show T.slotsUsed = T.slotsUsed + ((T.heap.toList.drop T.heap.size).map (·.slots.size)).sum
      rw [List.drop_eq_nil_of_le (Nat.le_of_eq Array.length_toList)]
      rfl
    · show ((T.heap.toList.drop T.heap.size).map (·.slots.size)).sum ≤ 0
      rw [List.drop_eq_nil_of_le (Nat.le_of_eq Array.length_toList)]
      exact Nat.le_refl _
/-- 'throw new E()': new; dup; invokespecial; athrow -/
theorem vx_throw0 {cc : ByteArray} {pc : Nat} (hexec : p.tables.exec = Jvm.exec) (hb : c.code = cc) (hl : l.stackTraces = false) {own cls : String} {names : List String} {ik ic mc ms : Nat} {A : Nat → Prop}
    (hown : s.vm.findClass own = some m.cls) (hcls : Bundle.fit cls = true) (hnames : ∀ n ∈ names, Bundle.fit n = true)
    (hk : (Cond.classLink own ik cls).before args s = true) (hini : (Cond.initialized cls).before args s = true) (hat : ∀ w ∈ vx_at0 own ic cls names, w.before args s = true)
    (hgood : ∀ w ∈ Cond.classLink own ik cls :: Cond.initialized cls :: vx_at0 own ic cls names, vx_ot w = true)
    (hU : vx_Zq Bundle.tN "UNASSIGNED_STACK" Bundle.steD A s s.heap) (hN : vx_Zq Bundle.tN "SUPPRESSED_SENTINEL" Bundle.listD A s s.heap) (hS : va_S A s.heap H locs) (hsize : ls.size = c.maxLocals)
    (d0 : decode cc pc = .ok (.new ik, 3)) (d3 : decode cc (pc + 3) = .ok (.dup, 1)) (d4 : decode cc (pc + 4) = .ok (.invokespecial ic, 3)) (d7 : decode cc (pc + 7) = .ok (.athrow, 1))
    (hout : ∀ x ∈ c.exceptionTable.toList, covers x (pc + 7) = false)
    (hRframes : names.length + 3 < R.frames) (hRlocals : (rest.map fun v => v.category).sum + (13 * (names.length + 1) + 42) ≤ R.locals) (hRcells : cells + 1 ≤ R.cells) (hRslots : slots + 6 ≤ R.slots) (hlocks : meth.locks = false)
    (hx : ∀ t : State, s.vm.Alike t.vm → H.size ≤ t.heap.size → (∀ q : Nat, q < H.size → t.heap[q]? = H[q]?) → XC cls s t)
    (hf : ∀ z ∈ locs, free z.base) (hc : cells + 1 ≤ mc) (hs : slots + 6 ≤ ms) :
    W p l e R s m args below meth c H locs cells slots (vx_MQ below Qc XC args s mc ms free) (F0 m pc ls rest) := by
  intro T hT X
  have htr : e.platform.stackTraces = false := (show e.platform.stackTraces = l.stackTraces by rw [X.admits.platform]).trans hl
  have Y := vx_rebase X (R' := { frames := R.frames, locals := R.locals, cells := 1, slots := 6 }) (Nat.le_refl _) (Nat.le_refl _) hRcells hRslots
  obtain ⟨s', hA⟩ : ∃ z, z = (T.setVm s.vm).setFrames (.invoking m args :: below) := ⟨_, rfl⟩
  rw [← hA] at Y
  have hvm : s'.vm = s.vm := by rw [hA]; rfl
  have hhp : s'.heap = H := by rw [hA]; exact hT
  have hW0 : s.WarmedH s'.vm := by rw [hvm]; exact State.WarmedH.refl s
  have hat' : ∀ w ∈ vx_at0 own ic cls names, w.before args s' = true := fun w hw => vx_ot_at hW0 hvm.symm (hgood w (List.mem_cons_of_mem _ (List.mem_cons_of_mem _ hw))) (hat w hw)
  have hk' : (Cond.classLink own ik cls).before args s' = true := vx_ot_at hW0 hvm.symm (hgood _ List.mem_cons_self) hk
  have hini' : (Cond.initialized cls).before args s' = true := vx_ot_at hW0 hvm.symm (hgood _ (List.mem_cons_of_mem _ List.mem_cons_self)) hini
  have hU' : vx_Zq Bundle.tN "UNASSIGNED_STACK" Bundle.steD A s' s'.heap := by rw [hhp]; exact vx_Zq.moved hW0.alike (hU.kept hS.2.1)
  have hN' : vx_Zq Bundle.tN "SUPPRESSED_SENTINEL" Bundle.listD A s' s'.heap := by rw [hhp]; exact vx_Zq.moved hW0.alike (hN.kept hS.2.1)
  have h : ∀ w ∈ Bundle.ownAtoms0 own ic cls names, w.before args s' = true := vx_own hat' (vx_isRefq hU'.1) (vx_isRefq hN'.1) hU'.2.word hN'.2.word
  have hown' : s'.vm.findClass own = some m.cls := by rw [hvm]; exact hown
  have hins : (Cond.instantiable cls 6).before args s' = true := h _ (by simp [Bundle.ownAtoms0])
  obtain ⟨vm₁, cX, kX, hfX, hkX, -, -, X₁, st1⟩ := Y.newCold hexec (own := own) (C := cls) (index := ik) (n := 6) hown' hk' hins hini'
    (g := F0 m pc ls rest) rfl (by rw [hb]; exact d0) (Nat.le_refl _) (Nat.le_refl _)
  generalize hT1 : (T.setVm vm₁).pushCell { cls := cX, slots := kX.instanceTypes.map defaultValue, vm := .none } = T1 at X₁ st1
  have hcat : (Value.ref T.heap.size).category = 1 := rfl
  have hcellA : T1.heap[T.heap.size]? = some (freshCell cX kX) := by rw [← hT1]; exact State.heap_pushCell_size _ _
  have d3' : decode c.code (pc + 3) = .ok (.dup, 1) := by rw [hb]; exact d3
  obtain ⟨U, hsteps, hrun, hend, hW, hsame, ce, hce, hO⟩ := X₁.ctorThrow0 hexec htr (own := own) (cls := cls) (names := names) (ic := ic) hown' hcls hnames h (fun x hx => nomatch hx) hfX hkX hcellA (by rw [hhp, hT]; exact Nat.le_refl _)
    (g := { method := m, pc := pc + 4, locals := ls, stack := .ref T.heap.size :: .ref T.heap.size :: rest, locked := none }) rfl hsize rfl rfl (rest := rest) rfl
    (by rw [hb]; exact d4) (by rw [hb]; exact d7) hout hRframes (by simp only [List.map_cons, List.sum_cons, hcat]; omega) hlocks
  obtain ⟨f1, f2⟩ := vx_frame hsame
  rw [hhp] at f1 f2
  have hWs : s.WarmedH U.vm := State.WarmedH.trans hW0 hW
  have hcl : s.vm.findClass cls = some ce.cls := by
    have h9 := hO.cls
    rw [hvm] at h9
    exact h9
  have hall : s.sameButNew ({ U with vm := s.vm } : State) locs mc ms := by
    subst hA
    obtain ⟨e1, e2⟩ := hsame
    rw [State.setFrames_setFrames] at e1
    have h2 : (T.setVm s.vm).sameButNew ({ U with vm := s.vm } : State) [] (0 + 1) (0 + 6) := ⟨e1, e2⟩
    have h3 := X.same.trans h2
    rw [List.append_nil] at h3
    exact h3.mono hc hs
  refine ⟨U, ?_, .threw T.heap.size, hrun, hend, Or.inr ⟨T.heap.size, rfl, cls, ce, locs, hx U hWs.alike f1 (fun q hq => f2 q hq (fun z hz => nomatch hz)), hce, hO.vm, hcl, hWs, hall, hf⟩⟩
  refine st1 _ ?_
  show Steps p.tables e below (T1.setTop { method := m, pc := pc + 3, locals := ls, stack := .ref T.heap.size :: rest, locked := none }) _
  jvm_step X₁.here [X₁.here.top, hexec, d3', Value.category]
  exact hsteps
/-- 'throw new E("text")': new; dup; ldc; invokespecial; athrow -/
theorem vx_throwS {cc : ByteArray} {pc : Nat} (hexec : p.tables.exec = Jvm.exec) (hb : c.code = cc) (hl : l.stackTraces = false) {own cls text : String} {names : List String} {ik is ic mc ms sa : Nat} {A : Nat → Prop}
    (hown : s.vm.findClass own = some m.cls) (hcls : Bundle.fit cls = true) (hnames : ∀ n ∈ names, Bundle.fit n = true)
    (hk : (Cond.classLink own ik cls).before args s = true) (hini : (Cond.initialized cls).before args s = true) (hstr : vk_R own is text sa s) (hat : ∀ w ∈ vx_atS own ic cls names, w.before args s = true)
    (hgood : ∀ w ∈ Cond.classLink own ik cls :: Cond.initialized cls :: vx_atS own ic cls names, vx_ot w = true)
    (hU : vx_Zq Bundle.tN "UNASSIGNED_STACK" Bundle.steD A s s.heap) (hN : vx_Zq Bundle.tN "SUPPRESSED_SENTINEL" Bundle.listD A s s.heap) (hS : va_S A s.heap H locs) (hsize : ls.size = c.maxLocals)
    (d0 : decode cc pc = .ok (.new ik, 3)) (d3 : decode cc (pc + 3) = .ok (.dup, 1)) (d4 : decode cc (pc + 4) = .ok (.ldc is, 2)) (d6 : decode cc (pc + 6) = .ok (.invokespecial ic, 3)) (d9 : decode cc (pc + 9) = .ok (.athrow, 1))
    (hout : ∀ x ∈ c.exceptionTable.toList, covers x (pc + 9) = false)
    (hRframes : names.length + 3 < R.frames) (hRlocals : (rest.map fun v => v.category).sum + (13 * (names.length + 1) + 43) ≤ R.locals) (hRcells : cells + 1 ≤ R.cells) (hRslots : slots + 6 ≤ R.slots) (hlocks : meth.locks = false)
    (hx : ∀ t : State, s.vm.Alike t.vm → H.size ≤ t.heap.size → (∀ q : Nat, q < H.size → t.heap[q]? = H[q]?) → XC cls s t)
    (hf : ∀ z ∈ locs, free z.base) (hc : cells + 1 ≤ mc) (hs : slots + 6 ≤ ms) :
    W p l e R s m args below meth c H locs cells slots (vx_MQ below Qc XC args s mc ms free) (F0 m pc ls rest) := by
  intro T hT X
  have htr : e.platform.stackTraces = false := (show e.platform.stackTraces = l.stackTraces by rw [X.admits.platform]).trans hl
  have Y := vx_rebase X (R' := { frames := R.frames, locals := R.locals, cells := 1, slots := 6 }) (Nat.le_refl _) (Nat.le_refl _) hRcells hRslots
  obtain ⟨s', hA⟩ : ∃ z, z = (T.setVm s.vm).setFrames (.invoking m args :: below) := ⟨_, rfl⟩
  rw [← hA] at Y
  have hvm : s'.vm = s.vm := by rw [hA]; rfl
  have hhp : s'.heap = H := by rw [hA]; exact hT
  have hW0 : s.WarmedH s'.vm := by rw [hvm]; exact State.WarmedH.refl s
  have hat' : ∀ w ∈ vx_atS own ic cls names, w.before args s' = true := fun w hw => vx_ot_at hW0 hvm.symm (hgood w (List.mem_cons_of_mem _ (List.mem_cons_of_mem _ hw))) (hat w hw)
  have hk' : (Cond.classLink own ik cls).before args s' = true := vx_ot_at hW0 hvm.symm (hgood _ List.mem_cons_self) hk
  have hini' : (Cond.initialized cls).before args s' = true := vx_ot_at hW0 hvm.symm (hgood _ (List.mem_cons_of_mem _ List.mem_cons_self)) hini
  have hU' : vx_Zq Bundle.tN "UNASSIGNED_STACK" Bundle.steD A s' s'.heap := by rw [hhp]; exact vx_Zq.moved hW0.alike (hU.kept hS.2.1)
  have hN' : vx_Zq Bundle.tN "SUPPRESSED_SENTINEL" Bundle.listD A s' s'.heap := by rw [hhp]; exact vx_Zq.moved hW0.alike (hN.kept hS.2.1)
  have h : ∀ w ∈ Bundle.ownAtoms own ic cls names, w.before args s' = true := vx_own hat' (vx_isRefq hU'.1) (vx_isRefq hN'.1) hU'.2.word hN'.2.word
  have hown' : s'.vm.findClass own = some m.cls := by rw [hvm]; exact hown
  have hins : (Cond.instantiable cls 6).before args s' = true := h _ (by simp [Bundle.ownAtoms])
  obtain ⟨vm₁, cX, kX, hfX, hkX, -, -, X₁, st1⟩ := Y.newCold hexec (own := own) (C := cls) (index := ik) (n := 6) hown' hk' hins hini'
    (g := F0 m pc ls rest) rfl (by rw [hb]; exact d0) (Nat.le_refl _) (Nat.le_refl _)
  generalize hT1 : (T.setVm vm₁).pushCell { cls := cX, slots := kX.instanceTypes.map defaultValue, vm := .none } = T1 at X₁ st1
  have hcat : (Value.ref T.heap.size).category = 1 := rfl
  have hcellA : T1.heap[T.heap.size]? = some (freshCell cX kX) := by rw [← hT1]; exact State.heap_pushCell_size _ _
  have d3' : decode c.code (pc + 3) = .ok (.dup, 1) := by rw [hb]; exact d3
  have d4' : decode c.code (pc + 4) = .ok (.ldc is, 2) := by rw [hb]; exact d4
  have hstr' : vk_R own is text sa s' := vk_R.warm hW0 hstr
  obtain ⟨U, hsteps, hrun, hend, hW, hsame, ce, hce, hO⟩ := X₁.ctorThrowS hexec htr (own := own) (cls := cls) (names := names) (ic := ic) hown' hcls hnames h (fun x hx => nomatch hx) hfX hkX hcellA (by rw [hhp, hT]; exact Nat.le_refl _) (msg := .ref sa) rfl
    (g := { method := m, pc := pc + 6, locals := ls, stack := .ref sa :: .ref T.heap.size :: .ref T.heap.size :: rest, locked := none }) rfl hsize rfl rfl (rest := rest) rfl
    (by rw [hb]; exact d6) (by rw [hb]; exact d9) hout hRframes (by simp only [List.map_cons, List.sum_cons, hcat]; omega) hlocks
  obtain ⟨f1, f2⟩ := vx_frame hsame
  rw [hhp] at f1 f2
  have hWs : s.WarmedH U.vm := State.WarmedH.trans hW0 hW
  have hcl : s.vm.findClass cls = some ce.cls := by
    have h9 := hO.cls
    rw [hvm] at h9
    exact h9
  have hall : s.sameButNew ({ U with vm := s.vm } : State) locs mc ms := by
    subst hA
    obtain ⟨e1, e2⟩ := hsame
    rw [State.setFrames_setFrames] at e1
    have h2 : (T.setVm s.vm).sameButNew ({ U with vm := s.vm } : State) [] (0 + 1) (0 + 6) := ⟨e1, e2⟩
    have h3 := X.same.trans h2
    rw [List.append_nil] at h3
    exact h3.mono hc hs
  refine ⟨U, ?_, .threw T.heap.size, hrun, hend, Or.inr ⟨T.heap.size, rfl, cls, ce, locs, hx U hWs.alike f1 (fun q hq => f2 q hq (fun z hz => nomatch hz)), hce, hO.vm, hcl, hWs, hall, hf⟩⟩
  refine st1 _ ?_
  show Steps p.tables e below (T1.setTop { method := m, pc := pc + 3, locals := ls, stack := .ref T.heap.size :: rest, locked := none }) _
  jvm_step X₁.here [X₁.here.top, hexec, d3', Value.category]
  exact X₁.ldcString hexec (own := own) (text := text) (index := is) (a := sa) hown' hstr'.1 hstr'.2
    (g := { method := m, pc := pc + 4, locals := ls, stack := .ref T.heap.size :: .ref T.heap.size :: rest, locked := none }) rfl d4' _ hsteps
/-- 'throw new E("text")', the text by a wide index -/
theorem vx_throwSW {cc : ByteArray} {pc : Nat} (hexec : p.tables.exec = Jvm.exec) (hb : c.code = cc) (hl : l.stackTraces = false) {own cls text : String} {names : List String} {ik is ic mc ms sa : Nat} {A : Nat → Prop}
    (hown : s.vm.findClass own = some m.cls) (hcls : Bundle.fit cls = true) (hnames : ∀ n ∈ names, Bundle.fit n = true)
    (hk : (Cond.classLink own ik cls).before args s = true) (hini : (Cond.initialized cls).before args s = true) (hstr : vk_R own is text sa s) (hat : ∀ w ∈ vx_atS own ic cls names, w.before args s = true)
    (hgood : ∀ w ∈ Cond.classLink own ik cls :: Cond.initialized cls :: vx_atS own ic cls names, vx_ot w = true)
    (hU : vx_Zq Bundle.tN "UNASSIGNED_STACK" Bundle.steD A s s.heap) (hN : vx_Zq Bundle.tN "SUPPRESSED_SENTINEL" Bundle.listD A s s.heap) (hS : va_S A s.heap H locs) (hsize : ls.size = c.maxLocals)
    (d0 : decode cc pc = .ok (.new ik, 3)) (d3 : decode cc (pc + 3) = .ok (.dup, 1)) (d4 : decode cc (pc + 4) = .ok (.ldc_w is, 3)) (d7 : decode cc (pc + 7) = .ok (.invokespecial ic, 3)) (d10 : decode cc (pc + 10) = .ok (.athrow, 1))
    (hout : ∀ x ∈ c.exceptionTable.toList, covers x (pc + 10) = false)
    (hRframes : names.length + 3 < R.frames) (hRlocals : (rest.map fun v => v.category).sum + (13 * (names.length + 1) + 43) ≤ R.locals) (hRcells : cells + 1 ≤ R.cells) (hRslots : slots + 6 ≤ R.slots) (hlocks : meth.locks = false)
    (hx : ∀ t : State, s.vm.Alike t.vm → H.size ≤ t.heap.size → (∀ q : Nat, q < H.size → t.heap[q]? = H[q]?) → XC cls s t)
    (hf : ∀ z ∈ locs, free z.base) (hc : cells + 1 ≤ mc) (hs : slots + 6 ≤ ms) :
    W p l e R s m args below meth c H locs cells slots (vx_MQ below Qc XC args s mc ms free) (F0 m pc ls rest) := by
  intro T hT X
  have htr : e.platform.stackTraces = false := (show e.platform.stackTraces = l.stackTraces by rw [X.admits.platform]).trans hl
  have Y := vx_rebase X (R' := { frames := R.frames, locals := R.locals, cells := 1, slots := 6 }) (Nat.le_refl _) (Nat.le_refl _) hRcells hRslots
  obtain ⟨s', hA⟩ : ∃ z, z = (T.setVm s.vm).setFrames (.invoking m args :: below) := ⟨_, rfl⟩
  rw [← hA] at Y
  have hvm : s'.vm = s.vm := by rw [hA]; rfl
  have hhp : s'.heap = H := by rw [hA]; exact hT
  have hW0 : s.WarmedH s'.vm := by rw [hvm]; exact State.WarmedH.refl s
  have hat' : ∀ w ∈ vx_atS own ic cls names, w.before args s' = true := fun w hw => vx_ot_at hW0 hvm.symm (hgood w (List.mem_cons_of_mem _ (List.mem_cons_of_mem _ hw))) (hat w hw)
  have hk' : (Cond.classLink own ik cls).before args s' = true := vx_ot_at hW0 hvm.symm (hgood _ List.mem_cons_self) hk
  have hini' : (Cond.initialized cls).before args s' = true := vx_ot_at hW0 hvm.symm (hgood _ (List.mem_cons_of_mem _ List.mem_cons_self)) hini
  have hU' : vx_Zq Bundle.tN "UNASSIGNED_STACK" Bundle.steD A s' s'.heap := by rw [hhp]; exact vx_Zq.moved hW0.alike (hU.kept hS.2.1)
  have hN' : vx_Zq Bundle.tN "SUPPRESSED_SENTINEL" Bundle.listD A s' s'.heap := by rw [hhp]; exact vx_Zq.moved hW0.alike (hN.kept hS.2.1)
  have h : ∀ w ∈ Bundle.ownAtoms own ic cls names, w.before args s' = true := vx_own hat' (vx_isRefq hU'.1) (vx_isRefq hN'.1) hU'.2.word hN'.2.word
  have hown' : s'.vm.findClass own = some m.cls := by rw [hvm]; exact hown
  have hins : (Cond.instantiable cls 6).before args s' = true := h _ (by simp [Bundle.ownAtoms])
  obtain ⟨vm₁, cX, kX, hfX, hkX, -, -, X₁, st1⟩ := Y.newCold hexec (own := own) (C := cls) (index := ik) (n := 6) hown' hk' hins hini'
    (g := F0 m pc ls rest) rfl (by rw [hb]; exact d0) (Nat.le_refl _) (Nat.le_refl _)
  generalize hT1 : (T.setVm vm₁).pushCell { cls := cX, slots := kX.instanceTypes.map defaultValue, vm := .none } = T1 at X₁ st1
  have hcat : (Value.ref T.heap.size).category = 1 := rfl
  have hcellA : T1.heap[T.heap.size]? = some (freshCell cX kX) := by rw [← hT1]; exact State.heap_pushCell_size _ _
  have d3' : decode c.code (pc + 3) = .ok (.dup, 1) := by rw [hb]; exact d3
  have d4' : decode c.code (pc + 4) = .ok (.ldc_w is, 3) := by rw [hb]; exact d4
  have hstr' : vk_R own is text sa s' := vk_R.warm hW0 hstr
  obtain ⟨U, hsteps, hrun, hend, hW, hsame, ce, hce, hO⟩ := X₁.ctorThrowS hexec htr (own := own) (cls := cls) (names := names) (ic := ic) hown' hcls hnames h (fun x hx => nomatch hx) hfX hkX hcellA (by rw [hhp, hT]; exact Nat.le_refl _) (msg := .ref sa) rfl
    (g := { method := m, pc := pc + 7, locals := ls, stack := .ref sa :: .ref T.heap.size :: .ref T.heap.size :: rest, locked := none }) rfl hsize rfl rfl (rest := rest) rfl
    (by rw [hb]; exact d7) (by rw [hb]; exact d10) hout hRframes (by simp only [List.map_cons, List.sum_cons, hcat]; omega) hlocks
  obtain ⟨f1, f2⟩ := vx_frame hsame
  rw [hhp] at f1 f2
  have hWs : s.WarmedH U.vm := State.WarmedH.trans hW0 hW
  have hcl : s.vm.findClass cls = some ce.cls := by
    have h9 := hO.cls
    rw [hvm] at h9
    exact h9
  have hall : s.sameButNew ({ U with vm := s.vm } : State) locs mc ms := by
    subst hA
    obtain ⟨e1, e2⟩ := hsame
    rw [State.setFrames_setFrames] at e1
    have h2 : (T.setVm s.vm).sameButNew ({ U with vm := s.vm } : State) [] (0 + 1) (0 + 6) := ⟨e1, e2⟩
    have h3 := X.same.trans h2
    rw [List.append_nil] at h3
    exact h3.mono hc hs
  refine ⟨U, ?_, .threw T.heap.size, hrun, hend, Or.inr ⟨T.heap.size, rfl, cls, ce, locs, hx U hWs.alike f1 (fun q hq => f2 q hq (fun z hz => nomatch hz)), hce, hO.vm, hcl, hWs, hall, hf⟩⟩
  refine st1 _ ?_
  show Steps p.tables e below (T1.setTop { method := m, pc := pc + 3, locals := ls, stack := .ref T.heap.size :: rest, locked := none }) _
  jvm_step X₁.here [X₁.here.top, hexec, d3', Value.category]
  exact X₁.ldcStringW hexec (own := own) (text := text) (index := is) (a := sa) hown' hstr'.1 hstr'.2
    (g := { method := m, pc := pc + 4, locals := ls, stack := .ref T.heap.size :: .ref T.heap.size :: rest, locked := none }) rfl d4' _ hsteps
end Ends
section Bodies
variable {l : Launch}
theorem vx_ofW {y : MethodName} {ws ws' : List Cond} {rm : Room} {Pc : Array Value → State → Prop} {Qc : Array Value → State → Outcome → State → Prop} {XC : String → State → State → Prop} {mc ms : Nat} {free : Addr → Prop} {cc : ByteArray} {maxL : Nat} {ret : Option FieldType}
    (hy : plainName y.cls = true) (hw : ws = Cond.code y cc maxL ret :: ws')
    (body : ∀ p e s m args below meth c s₁, BodyLoose p l y (headSpec ws rm) cc maxL ret e s m args below meth c s₁ → c.maxLocals = maxL → (∀ x ∈ c.exceptionTable.toList, False) → Pc args s →
      W p l e (headSpec ws rm).room s m args below meth c s.heap [] 0 0 (vx_MQ below Qc XC args s mc ms free) (entryFrame m args maxL)) : vx_Met l y ws rm Pc Qc XC mc ms free := by
  refine MetFree.of_bodyS (code := cc) (maxLocals := maxL) (ret := ret) hy ?_ ?_
  · intro args s m h hn
    obtain ⟨meth, c, h1, h2, h3, h4, h5, h6, -, -⟩ := Cond.code_spec hn (atoms_spec (ws := ws) h _ (by rw [hw]; exact List.mem_cons_self))
    exact ⟨meth, c, h1, h2, h3, h4, h5, h6⟩
  · intro p e s m args below meth c s₁ B hml hP _
    have hh0 : s₁.heap = s.heap := by rw [B.state]; rfl
    have ht : ∀ x ∈ c.exceptionTable.toList, False := by
      obtain ⟨meth9, c9, h1, h2, -, -, -, -, h7, -⟩ := Cond.code_spec B.named (atoms_spec (ws := ws) B.pre _ (by rw [hw]; exact List.mem_cons_self))
      cases Option.some.inj (h1.symm.trans B.method)
      cases Option.some.inj (h2.symm.trans (Stand.of_body B).code)
      intro x hx
      rw [Array.isEmpty_iff.mp h7] at hx
      cases hx
    obtain ⟨t, a1, o, b1, b2, b3⟩ := body p e s m args below meth c s₁ B hml ht hP s₁ hh0 (Stand.of_body B)
    exact ⟨t, o, a1, b1, b2, b3⟩
/-- the table of a body with handlers -/
theorem vx_table {p : Program} {x y : MethodName} {S : Spec} {cc bytes : ByteArray} {maxL maxL' : Nat} {ret ret' : Option FieldType} {e : Env} {s s₁ : State} {m : MethodId} {args : Array Value} {below : List Frame} {meth : Method} {c : Code} {hh : List (Nat × Nat × Nat × Nat)}
    (B : BodyLoose p l y S cc maxL ret e s m args below meth c s₁) (h : (Cond.codeWith y bytes maxL' ret' hh).before args s = true) : c.exceptionTable.toList = tableOf hh := by
  obtain ⟨m9, meth9, c9, hn9, h1, h2, -, -, h6, -⟩ := Cond.codeWith_spec h
  cases Option.some.inj (hn9.symm.trans B.named)
  cases Option.some.inj (h1.symm.trans B.method)
  cases Option.some.inj (h2.symm.trans (Stand.of_body B).code)
  rw [← h6, table_eq]
end Bodies
end VXA
/-! ===== END ===== -/
/-! ===== BEGIN a static call of a method with an exception table ===== -/
section VXS
variable {p : Program} {l : Launch} {e : Env} {R : Room} {s : State} {m : MethodId} {args : Array Value} {below : List Frame} {meth : Method} {c : Code} {T : State} {H : Heap} {locs : List Loc} {cells slots : Nat}
abbrev vx_CSW (R : Room) (s : State) (args : Array Value) (own : String) (index : Nat) (y : MethodName) (bytes : ByteArray) (maxL : Nat) (ret : Option FieldType) (hh : List (Nat × Nat × Nat × Nat)) (ws : List Cond) (rm : Room) (mc ms n : Nat) : Prop :=
  (rm.cells = mc ∧ rm.slots = ms ∧ rm.frames + 1 ≤ R.frames ∧ 8 + (maxL + 11) + rm.locals ≤ R.locals ∧ (∀ w ∈ ws, ∀ (a' : Array Value) (U : State), s.WarmedH U.vm → w.before a' U = true) ∧ Cond.codeWith y bytes maxL ret hh ∈ ws) ∧
  (Cond.codeWith y bytes maxL ret hh).before args s = true ∧ (Cond.initialized y.cls).before args s = true ∧ (y.cls ≠ "java/lang/invoke/MethodHandle" ∧ y.cls ≠ "java/lang/invoke/VarHandle") ∧
  (∀ sig, parseMethodDescriptor y.desc = some sig → n = sig.parameters.length) ∧ (Cond.methodLink own index y).before args s = true ∧ (Cond.static y).before args s = true
theorem vx_cwSW {own : String} {index maxL mc ms : Nat} {y : MethodName} {bytes : ByteArray} {ret : Option FieldType} {hh : List (Nat × Nat × Nat × Nat)} {Ts ws ws' : List Cond} {rm : Room} (n : Nat) (ht : ∀ w ∈ Ts, w.before args s = true) (hT : GoodIn Ts (va_wsS own index y ws)) (hw : ws = Cond.codeWith y bytes maxL ret hh :: ws') (hrc : rm.cells = mc) (hrs : rm.slots = ms)
    (hd : y.cls ≠ "java/lang/invoke/MethodHandle" ∧ y.cls ≠ "java/lang/invoke/VarHandle" ∧ (parseMethodDescriptor y.desc).map (fun d => d.parameters.length) = some n) (hR : rm.frames + 1 ≤ R.frames ∧ 8 + (maxL + 11) + rm.locals ≤ R.locals) :
    vx_CSW R s args own index y bytes maxL ret hh ws rm mc ms n := by
  have ok : ∀ w ∈ va_wsS own index y ws, w.before args s = true := fun w h => ht w (hT w h).1
  have hG : GoodIn Ts ws := fun w h => hT w (by unfold va_wsS; exact List.mem_append_right _ h)
  have hc : Cond.codeWith y bytes maxL ret hh ∈ ws := by rw [hw]; exact List.mem_cons_self
  refine ⟨⟨hrc, hrs, hR.1, hR.2, pay_in ht hG, hc⟩, ht _ (hG _ hc).1, ok _ (by simp [va_wsS]), ⟨hd.1, hd.2.1⟩, fun sig h => ?_, ok _ (by simp [va_wsS]), ok _ (by simp [va_wsS])⟩
  have h2 := hd.2.2
  rw [h] at h2
  exact (Option.some.inj h2).symm
theorem vx_callSW (X : Stand p l e R s m args below meth c T locs cells slots) (hexec : p.tables.exec = Jvm.exec) {own : String} {index : Nat} {y : MethodName} {bytes : ByteArray} {maxL : Nat} {ret : Option FieldType} {hh : List (Nat × Nat × Nat × Nat)}
    (hown : s.vm.findClass own = some m.cls) (hlink : (Cond.methodLink own index y).before args s = true) (hstat : (Cond.static y).before args s = true) (hinit : (Cond.initialized y.cls).before args s = true)
    (hcode : (Cond.codeWith y bytes maxL ret hh).before args s = true) (hy : y.cls ≠ "java/lang/invoke/MethodHandle" ∧ y.cls ≠ "java/lang/invoke/VarHandle")
    {W9 : Nat} {Pre : Pt → Array Value → Prop} {Post : Pt → Array Value → Option Value → Pt → Prop} (hK : Back l R p e below s args y 3 W9 Pre Post)
    {g : JFrame} (hg : g.method = m) (hsize : g.locals.size = c.maxLocals) {argsL rest : List Value} (hlen : ∀ sig, parseMethodDescriptor y.desc = some sig → argsL.length = sig.parameters.length)
    (hstack : g.stack = argsL.reverse ++ rest) (hW : 2 * g.monitorRoom + (rest.map fun v => v.category).sum ≤ W9) (hdg : decode c.code g.pc = .ok (.invokestatic index, 3))
    (hpre : ∀ vm₁, s.WarmedH vm₁ → Pre ⟨T.setVm vm₁, locs, cells, slots⟩ argsL.toArray) :
    ∃ (v : Option Value) (vm₁ : Vm) (B : Pt), s.WarmedH vm₁ ∧ Stand p l e R s m args below meth c B.U B.locs B.cells B.slots ∧ Post ⟨T.setVm vm₁, locs, cells, slots⟩ argsL.toArray v B ∧
      ∀ target, Steps p.tables e below (B.U.setTop { g with pc := g.pc + 3, stack := v.toList ++ rest }) target → Steps p.tables e below (T.setTop g) target := by
  obtain ⟨mk, methM, cM, hnamed, hmethM, -, -, -, -, -, -, hsigM⟩ := Cond.codeWith_spec hcode
  have hstatic : methM.isStatic = true := Cond.static_spec hnamed hmethM hstat
  obtain ⟨kP, hkP, -⟩ := className_of_methodNamed hnamed
  have hinitP : kP.init = .initialized := Cond.initialized_spec (findClass_of_methodNamed hnamed) hkP hinit
  obtain ⟨vm₁, X₁, hstep₁⟩ := X.invokestatic hexec hown hlink hnamed hmethM hstatic hkP hinitP hy (g := g) hg (argsL := argsL) (rest := rest) (hlen _ hsigM) hstack hdg
  obtain ⟨v, B, X', hpost, hsteps⟩ := hK m meth c ⟨T.setVm vm₁, locs, cells, slots⟩ { g with stack := rest } (.invokestatic index) mk argsL.toArray X₁ hg hsize hdg hW (X₁.named hnamed) (hpre vm₁ X₁.warmed)
  exact ⟨v, vm₁, B, X₁.warmed, X', hpost, fun target h => hstep₁ _ fun acts => by rw [doInvoke_state]; exact hsteps.trans h⟩
theorem vx_runSW {y : MethodName} {bytes cc : ByteArray} {maxL nL mc ms n index : Nat} {ret : Option FieldType} {hh : List (Nat × Nat × Nat × Nat)} {ws : List Cond} {rm : Room} {Pc : Array Value → State → Prop} {Qc : Array Value → State → Outcome → State → Prop} {free : Addr → Prop} {Ts : List Cond} {own : String} {As rest : List Value} {g : JFrame}
    (S : CallFix p m c cc nL s args Ts own) (hM : Met l y ws rm Pc Qc mc ms free) (cw : vx_CSW R s args own index y bytes maxL ret hh ws rm mc ms n) (hp : PreS s H Pc As)
    (hg : g.method = m) (hn : As.length = n) (hsize : g.locals.size = nL) (hstack : g.stack = As.reverse ++ rest) (hW : 2 * g.monitorRoom + (rest.map fun v => v.category).sum ≤ 8) (hdg : decode cc g.pc = .ok (.invokestatic index, 3)) (hf : cells + mc ≤ R.cells ∧ slots + ms ≤ R.slots) :
    va_Run p l e R s m args below meth c H locs cells slots mc ms g rest (Qc As.toArray) (free) := by
  obtain ⟨⟨hrc, hrs, hfr, hlo, hws, hcw⟩, hcode, hini, hy, hlen, hl, hstt⟩ := cw
  have hK : Back l R p e below s args y 3 8 (PreOf R mc ms Pc) (PostOf Qc mc ms free) := va_backW (hh := hh) (bytes := bytes) (maxL := maxL) (ret := ret) hM hp.1 hrc hrs hfr hlo hws hcw (fun a' U hW => word_at hW (Or.inl (by first | rfl | simp [Cond.onTables, Cond.keeps, Cond.steady])) hini)
  obtain ⟨hx, hb, hml, ho, -⟩ := S
  intro T hT X
  obtain ⟨v, vm₁, ⟨U', l2, c2, s2⟩, hW₁, X', ⟨g', mk, t, L, e1, e2, hq, h1, hL, h2, h3⟩, st⟩ := vx_callSW X hx (hh := hh) (bytes := bytes) (maxL := maxL) (ret := ret) ho hl hstt hini hcode hy hK hg (hsize.trans hml.symm) (argsL := As) (rest := rest) (fun sig h => hn.trans (hlen sig h)) hstack hW (by rw [hb]; exact hdg)
    (fun vm₁ hW₁ => ⟨hf.1, hf.2, hp.2 (T.setVm vm₁) hT hW₁⟩)
  dsimp only [Pt.U, Pt.locs, Pt.cells, Pt.slots] at X' e1 e2 h1 h2 h3 st
  subst h1; subst h2; subst h3
  exact ⟨v, (T.setVm vm₁).calling g' mk As.toArray, t, U', L, hT, X', hL, e1, e2, hq, st⟩
/-- not caught here, past rows that name other classes: it goes on to the caller -/
theorem vx_outP {p : Program} {l : Launch} {e : Env} {R : Room} {s : State} {m : MethodId} {args : Array Value} {below : List Frame} {meth : Method} {c : Code} {H : Heap} {locs : List Loc} {cells slots : Nat} {free : Addr → Prop} {ls : Array Slot} {rest : List Value} {Qc : Array Value → State → Outcome → State → Prop} {XC : String → State → State → Prop}
    {pc : Nat} {own E : String} {ce : Cell} {q : Addr} {mc ms : Nat} (hown : s.vm.findClass own = some m.cls) (hlocks : meth.locks = false)
    (hpass : ∀ z ∈ c.exceptionTable.toList, covers z pc = false ∨ (z.catchType ≠ 0 ∧ ∃ nm : String, (Cond.classLink own z.catchType nm).before args s = true ∧ va_Nc E nm s)) (hcell : H[q]? = some ce) (hv : ce.vm = .none) (hcl : s.vm.findClass E = some ce.cls)
    (hx : ∀ t : State, t.heap = H → s.vm.Alike t.vm → XC E s t) (hf : ∀ z ∈ locs, free z.base) (hc : cells ≤ mc) (hs : slots ≤ ms) :
    vx_W p l e R s m args below meth c H locs cells slots (vx_MQ below Qc XC args s mc ms free) (F0 m pc ls rest) q := by
  intro T hT X
  have hpl : e.platform.magicAccessors = ({} : Platform).magicAccessors := by rw [X.admits.platform]
  obtain ⟨vm', hW', X', st⟩ := X.outThrough hlocks q (g := F0 m pc ls rest) rfl rfl rfl (cell := ce) (by rw [hT]; exact hcell) (by rw [hv]; rfl)
    (by obtain ⟨k9, h9, -⟩ := Vm.findClass_spec hcl; exact ⟨k9, h9⟩) (fun z hz => by
      rcases hpass z hz with h | ⟨hz0, nm, hl1, hn1⟩
      · exact Or.inl h
      · obtain ⟨c6, hc6, hcl6⟩ := Cond.classLink_spec hown hl1 e.platform hpl
        obtain ⟨a8, b8, h1, h2, h3⟩ := hn1
        cases Option.some.inj (h1.symm.trans hcl)
        cases Option.some.inj (h2.symm.trans hc6)
        exact Or.inr ⟨hz0, _, hcl6, h3⟩)
  obtain ⟨g₀, hfr⟩ := X'.frames_eq
  have hcell9 : ((T.setVm vm').setFrames (.throwing q :: below)).heap[q]? = some ce := by
    show T.heap[q]? = some ce
    rw [hT]; exact hcell
  have hend : Ended ((T.setVm vm').setFrames (.throwing q :: below)) below (.threw q) := State.frames_setFrames _ (State.cur_lt_of_frames hfr)
  refine ⟨(T.setVm vm').setFrames (.throwing q :: below), ?_, .threw q, X'.here.running, hend, Or.inr ⟨q, rfl, E, ce, locs, hx _ hT (X'.ends _).1.alike, hcell9, hv, hcl, (X'.ends _).1, (X'.ends _).2.mono hc hs, hf⟩⟩
  rw [X.pushThrowing_eq]
  exact st
/-- a thing of a world lies in the heap -/
theorem vx_lt {D : va_G} {cl : List vw_C} {ws : va_W} {H1 : Heap} (h : va_P D cl ws H1) {k : Nat} {q : Nat × va_E} (hk : ws[k]? = some q) : q.1 < H1.size := (h k q hk).lt
end VXS
/-! ===== END ===== -/
/-! ===== BEGIN methods with a table of their own: called by a name, returning or throwing ===== -/
section VXH
/-! vx_backW, vx_callVX, vx_callSX, vx_callVW, vx_runVW, vx_runVX, vx_runSX, vx_ofWH follow the same proofs as their sisters above (Free/Laws.lean, Shelf42/LK1.lean); vx_outP calls Shelf42/NT130.lean (outThrough). -/
section
variable {l : Launch} {R : Room} {p : Program} {e : Env} {below : List Frame} {s : State} {sargs : Array Value} {y : MethodName} {len W9 : Nat}
theorem vx_backW {ws : List Cond} {rm : Room} {Pc : Array Value → State → Prop} {Qc : Array Value → State → Outcome → State → Prop} {XC : String → State → State → Prop} {mc ms : Nat} {free : Addr → Prop} {bytes : ByteArray} {maxL : Nat} {ret : Option FieldType} {hh : List (Nat × Nat × Nat × Nat)}
    (hM : vx_Met l y ws rm Pc Qc XC mc ms free) (hblind : FrameBlind Pc) (hrc : rm.cells = mc) (hrs : rm.slots = ms)
    (hframes : rm.frames + 1 ≤ R.frames) (hlocals : W9 + (maxL + 11) + rm.locals ≤ R.locals)
    (hws : ∀ w ∈ ws, ∀ a' U, s.WarmedH U.vm → w.before a' U = true) (hcode : Cond.codeWith y bytes maxL ret hh ∈ ws) (hinit : ∀ a' U, s.WarmedH U.vm → (Cond.initialized y.cls).before a' U = true) :
    vx_Back l R p e below s sargs y len W9 (PreOf R mc ms Pc) (PostOf Qc mc ms free) (vx_Post XC mc ms free) := by
  intro m meth c A g ig mk a X hg hsize hdg hW hn hp
  have h1 : (headSpec ws rm).pre.before a A.U = true := atoms_intro fun w hw => hws w hw _ _ X.warmed
  have h2 : (Cond.codeWith y bytes maxL ret hh).before a A.U = true := hws _ hcode _ _ X.warmed
  have h3 : (Cond.initialized y.cls).before a A.U = true := hinit _ _ X.warmed
  have h4 : A.cells + (headSpec ws rm).room.cells ≤ R.cells := by rw [show (headSpec ws rm).room.cells = mc from hrc]; exact hp.1
  have h5 : A.slots + (headSpec ws rm).room.slots ≤ R.slots := by rw [show (headSpec ws rm).room.slots = ms from hrs]; exact hp.2.1
  have hPc : Pc a (A.U.calling g mk a) := hblind _ _ _ _ hp.2.2
  obtain ⟨U, Ls, c0, s0⟩ := A
  dsimp only [Pt.U, Pt.locs, Pt.cells, Pt.slots] at h1 h2 h3 h4 h5 X hn hPc ⊢
  obtain ⟨m9, methY, cY, hn9, hmY, hcY, -, hlY, -⟩ := Cond.codeWith_spec h2
  cases Option.some.inj (hn9.symm.trans hn)
  obtain ⟨kY, hkY, -⟩ := className_of_methodNamed hn
  have hinitY : kY.init = .initialized := Cond.initialized_spec (findClass_of_methodNamed hn) hkY h3
  have h : At U g.method c below := by rw [hg]; exact X.here
  have hlocals9 : W9 + (maxL + 11) + (headSpec ws rm).room.locals ≤ R.locals := hlocals
  have happ : (headSpec ws rm).appliesLoose y e.platform (U.calling g mk a) = true :=
    Spec.appliesLoose_calling (g := g) h hdg hn hkY hinitY
      (X.room_calling (g := g) (R' := (headSpec ws rm).room) hsize hmY hcY hframes (by rw [hlY]; omega) h4 h5) h1
  obtain ⟨mid, hmid⟩ := h.above
  have hfr : (U.setTop g).frames = (.java g :: mid) ++ below := by rw [State.frames_setTop' g h.top, hmid]; rfl
  obtain ⟨o, s₂, hsteps, -, hend, hq⟩ := Steps.callFree hM p X.admits X.cas X.clock (acts := []) hfr happ hPc trivial
  have hq' : vx_Q Qc XC mc ms free a (U.calling g mk a) o s₂ := hq
  rw [State.frames_setTop' g h.top] at hend
  obtain ⟨g₀, hg0⟩ := Option.isSome_iff_exists.mp h.top
  obtain ⟨r, hr⟩ := State.topJava?_eq_some.mp hg0
  have hr' : (({ U with heap := s₂.heap, slotsUsed := s₂.slotsUsed } : State).setVm s₂.vm).frames = .java g₀ :: r := hr
  rcases hq' with ⟨hqc, L, hfe, hL⟩ | ⟨q, rfl, E, ce, L, hx, hce, hcv, hcl, hW₂, hsm, hL⟩
  · obtain ⟨⟨v, rfl⟩, hW₂, e2, q2, q3, q4, q5, q6⟩ := id hfe
    have e3 : s₂ = ({ (U.calling g mk a).setFrames s₂.frames with heap := s₂.heap, slotsUsed := s₂.slotsUsed } : State).setVm s₂.vm := by
      have : s₂ = ({ s₂ with vm := (U.calling g mk a).vm } : State).setVm s₂.vm := rfl
      rw [e2] at this
      exact this
    obtain ⟨c₂, i₂, len₂, hc₂, hd₂, hf₂⟩ := hend
    have hW' : U.WarmedH s₂.vm := hW₂
    have hcc : c₂ = c := by
      have h1 : s₂.code? g.method = U.code? g.method := by
        rw [State.code?_eq, State.code?_eq, hW'.alike.method?]
      exact Option.some.inj (hc₂.symm.trans (h1.trans h.code))
    subst hcc
    have hlen : len₂ = len := by rw [hdg] at hd₂; cases hd₂; rfl
    subst hlen
    have hs₂ : s₂ = (({ U with heap := s₂.heap, slotsUsed := s₂.slotsUsed } : State).setVm s₂.vm).setTop { g with pc := g.pc + len₂, stack := v.toList ++ g.stack } := by
      refine e3.trans ?_
      rw [hf₂, State.calling_eq h.top, State.setFrames_setFrames, State.setTop_of_frames _ hr', hr]
      rfl
    have hsame : U.sameButNew ({ U with heap := s₂.heap, slotsUsed := s₂.slotsUsed } : State) L mc ms := by
      refine ⟨?_, q2, q3, q4, q5, q6⟩
      obtain ⟨t, ht, -⟩ := State.frames_cons hr
      show ({ U with heap := s₂.heap, slotsUsed := s₂.slotsUsed } : State) = { U.setFrames U.frames with heap := s₂.heap, slotsUsed := s₂.slotsUsed }
      rw [State.setFrames_self ht]
    subst hg
    refine Or.inl ⟨v, ⟨(({ U with heap := s₂.heap, slotsUsed := s₂.slotsUsed } : State).setVm s₂.vm), Ls ++ L, c0 + mc, s0 + ms⟩,
      ⟨X.admits, X.cas, X.clock, X.frames, X.room, X.hears, X.method, X.code, (X.here.setHeapUsed s₂.heap s₂.slotsUsed).setVm hW'.alike, X.tail, State.WarmedH.trans X.warmed hW', X.limits, X.bytes, X.same.trans (hsame.setVm s.vm)⟩,
      ⟨g, mk, s₂, L, rfl, rfl, hqc, rfl, hL, rfl, rfl⟩, ?_⟩
    show Steps p.tables e below _ ((({ U with heap := s₂.heap, slotsUsed := s₂.slotsUsed } : State).setVm s₂.vm).setTop { g with pc := g.pc + len₂, stack := v.toList ++ g.stack })
    rw [← hs₂]
    exact hsteps
  · obtain ⟨e2, q2, q3, q4, q5, q6⟩ := id hsm
    have e3 : s₂ = ({ (U.calling g mk a).setFrames s₂.frames with heap := s₂.heap, slotsUsed := s₂.slotsUsed } : State).setVm s₂.vm := by
      have : s₂ = ({ s₂ with vm := (U.calling g mk a).vm } : State).setVm s₂.vm := rfl
      rw [e2] at this
      exact this
    have hf₂ : s₂.frames = .throwing q :: .java g :: U.frames.tail := hend
    have hW' : U.WarmedH s₂.vm := hW₂
    have hs₂ : s₂ = ((({ U with heap := s₂.heap, slotsUsed := s₂.slotsUsed } : State).setVm s₂.vm).setTop g).pushFrame (.throwing q) := by
      refine e3.trans ?_
      rw [hf₂, State.calling_eq h.top, State.setFrames_setFrames, State.pushFrame, State.frames_setTop _ hr', State.setTop_of_frames _ hr', State.setFrames_setFrames, hr]
      rfl
    have hsame : U.sameButNew ({ U with heap := s₂.heap, slotsUsed := s₂.slotsUsed } : State) L mc ms := by
      refine ⟨?_, q2, q3, q4, q5, q6⟩
      obtain ⟨t, ht, -⟩ := State.frames_cons hr
      show ({ U with heap := s₂.heap, slotsUsed := s₂.slotsUsed } : State) = { U.setFrames U.frames with heap := s₂.heap, slotsUsed := s₂.slotsUsed }
      rw [State.setFrames_self ht]
    subst hg
    refine Or.inr ⟨q, ⟨(({ U with heap := s₂.heap, slotsUsed := s₂.slotsUsed } : State).setVm s₂.vm), Ls ++ L, c0 + mc, s0 + ms⟩,
      ⟨X.admits, X.cas, X.clock, X.frames, X.room, X.hears, X.method, X.code, (X.here.setHeapUsed s₂.heap s₂.slotsUsed).setVm hW'.alike, X.tail, State.WarmedH.trans X.warmed hW', X.limits, X.bytes, X.same.trans (hsame.setVm s.vm)⟩,
      ⟨g, mk, s₂, L, E, ce, rfl, rfl, hx, hce, hcv, hcl, rfl, hL, rfl, rfl⟩, ?_⟩
    show Steps p.tables e below _ (((({ U with heap := s₂.heap, slotsUsed := s₂.slotsUsed } : State).setVm s₂.vm).setTop g).pushFrame (.throwing q))
    rw [← hs₂]
    exact hsteps
end
variable {p : Program} {l : Launch} {e : Env} {R : Room} {s : State} {m : MethodId} {args : Array Value} {below : List Frame} {meth : Method} {c : Code} {T : State} {H : Heap} {locs : List Loc} {cells slots : Nat}
theorem vx_callVX (X : Stand p l e R s m args below meth c T locs cells slots) (hexec : p.tables.exec = Jvm.exec) {own C : String} {index : Nat} {y : MethodName} {bytes : ByteArray} {maxL : Nat} {ret : Option FieldType} {hh : List (Nat × Nat × Nat × Nat)}
    (hown : s.vm.findClass own = some m.cls) (hlink : (Cond.methodLink own index y).before args s = true) (hinst : (Cond.instanceMethod y).before args s = true) (hsel : (Cond.selects C y y).before args s = true)
    (hcode : (Cond.codeWith y bytes maxL ret hh).before args s = true) (hy : y.cls ≠ "java/lang/invoke/MethodHandle" ∧ y.cls ≠ "java/lang/invoke/VarHandle")
    {W9 : Nat} {Pre : Pt → Array Value → Prop} {Post : Pt → Array Value → Option Value → Pt → Prop} {PostX : Pt → Array Value → Addr → Pt → Prop} (hK : vx_Back l R p e below s args y 3 W9 Pre Post PostX)
    {b : Addr} {cellB : Cell} (hcell : T.heap[b]? = some cellB) (hobj : cellB.vm.isStatics = false) (hcls : s.vm.findClass C = some cellB.cls)
    {g : JFrame} (hg : g.method = m) (hsize : g.locals.size = c.maxLocals) {argsL rest : List Value} (hlen : ∀ sig, parseMethodDescriptor y.desc = some sig → argsL.length = sig.parameters.length)
    (hstack : g.stack = argsL.reverse ++ .ref b :: rest) (hW : 2 * g.monitorRoom + (rest.map fun v => v.category).sum ≤ W9) (hdg : decode c.code g.pc = .ok (.invokevirtual index, 3))
    (hpre : ∀ vm₁, s.WarmedH vm₁ → Pre ⟨T.setVm vm₁, locs, cells, slots⟩ (Value.ref b :: argsL).toArray) :
    (∃ (v : Option Value) (vm₁ : Vm) (B : Pt), s.WarmedH vm₁ ∧ Stand p l e R s m args below meth c B.U B.locs B.cells B.slots ∧ Post ⟨T.setVm vm₁, locs, cells, slots⟩ (Value.ref b :: argsL).toArray v B ∧
      ∀ target, Steps p.tables e below (B.U.setTop { g with pc := g.pc + 3, stack := v.toList ++ rest }) target → Steps p.tables e below (T.setTop g) target) ∨
    (∃ (q : Addr) (vm₁ : Vm) (B : Pt), s.WarmedH vm₁ ∧ Stand p l e R s m args below meth c B.U B.locs B.cells B.slots ∧ PostX ⟨T.setVm vm₁, locs, cells, slots⟩ (Value.ref b :: argsL).toArray q B ∧
      Steps p.tables e below (T.setTop g) ((B.U.setTop { g with stack := rest }).pushFrame (.throwing q))) := by
  obtain ⟨mk, methM, hnamed, hmethM, hstM, habM⟩ := Cond.instanceMethod_spec hinst
  obtain ⟨m8, methM', cM, hn8, hmethM', -, -, -, -, -, -, hsigM⟩ := Cond.codeWith_spec hcode
  cases Option.some.inj (hn8.symm.trans hnamed)
  cases hmethM.symm.trans hmethM'
  obtain ⟨c2, r2, m2, q1, q2, q3, q4, kP, hkP, hkPi⟩ := Cond.selects_spec hsel
  cases hcls.symm.trans q1
  cases (State.methodFound?_of_named hnamed hy).symm.trans q2
  cases hnamed.symm.trans q3
  have hselP : selectMethod e.platform s.vm cellB.cls mk = .method mk := by rw [Launch.admits_selectMethod X.admits]; exact q4
  obtain ⟨vm₁, X₁, hstep₁⟩ := X.invokevirtual hexec hown hlink hnamed hmethM hstM hkP hkPi hy (a := b) (cell := cellB) hcell
    (fun z h => by rw [h] at hobj; cases hobj) hselP hmethM habM hkP hkPi (g := g) hg (argsL := argsL) (rest := rest) (hlen _ hsigM) hstack hdg
  rcases hK m meth c ⟨T.setVm vm₁, locs, cells, slots⟩ { g with stack := rest } (.invokevirtual index) mk (Value.ref b :: argsL).toArray X₁ hg hsize hdg hW (X₁.named hnamed) (hpre vm₁ X₁.warmed) with ⟨v, B, X', hpost, hsteps⟩ | ⟨q, B, X', hpost, hsteps⟩
  · exact Or.inl ⟨v, vm₁, B, X₁.warmed, X', hpost, fun target h => hstep₁ _ fun acts => by rw [doInvoke_state]; exact hsteps.trans h⟩
  · exact Or.inr ⟨q, vm₁, B, X₁.warmed, X', hpost, hstep₁ _ fun acts => by rw [doInvoke_state]; exact hsteps⟩
theorem vx_callSX (X : Stand p l e R s m args below meth c T locs cells slots) (hexec : p.tables.exec = Jvm.exec) {own : String} {index : Nat} {y : MethodName} {bytes : ByteArray} {maxL : Nat} {ret : Option FieldType} {hh : List (Nat × Nat × Nat × Nat)}
    (hown : s.vm.findClass own = some m.cls) (hlink : (Cond.methodLink own index y).before args s = true) (hstat : (Cond.static y).before args s = true) (hinit : (Cond.initialized y.cls).before args s = true)
    (hcode : (Cond.codeWith y bytes maxL ret hh).before args s = true) (hy : y.cls ≠ "java/lang/invoke/MethodHandle" ∧ y.cls ≠ "java/lang/invoke/VarHandle")
    {W9 : Nat} {Pre : Pt → Array Value → Prop} {Post : Pt → Array Value → Option Value → Pt → Prop} {PostX : Pt → Array Value → Addr → Pt → Prop} (hK : vx_Back l R p e below s args y 3 W9 Pre Post PostX)
    {g : JFrame} (hg : g.method = m) (hsize : g.locals.size = c.maxLocals) {argsL rest : List Value} (hlen : ∀ sig, parseMethodDescriptor y.desc = some sig → argsL.length = sig.parameters.length)
    (hstack : g.stack = argsL.reverse ++ rest) (hW : 2 * g.monitorRoom + (rest.map fun v => v.category).sum ≤ W9) (hdg : decode c.code g.pc = .ok (.invokestatic index, 3))
    (hpre : ∀ vm₁, s.WarmedH vm₁ → Pre ⟨T.setVm vm₁, locs, cells, slots⟩ argsL.toArray) :
    (∃ (v : Option Value) (vm₁ : Vm) (B : Pt), s.WarmedH vm₁ ∧ Stand p l e R s m args below meth c B.U B.locs B.cells B.slots ∧ Post ⟨T.setVm vm₁, locs, cells, slots⟩ argsL.toArray v B ∧
      ∀ target, Steps p.tables e below (B.U.setTop { g with pc := g.pc + 3, stack := v.toList ++ rest }) target → Steps p.tables e below (T.setTop g) target) ∨
    (∃ (q : Addr) (vm₁ : Vm) (B : Pt), s.WarmedH vm₁ ∧ Stand p l e R s m args below meth c B.U B.locs B.cells B.slots ∧ PostX ⟨T.setVm vm₁, locs, cells, slots⟩ argsL.toArray q B ∧
      Steps p.tables e below (T.setTop g) ((B.U.setTop { g with stack := rest }).pushFrame (.throwing q))) := by
  obtain ⟨mk, methM, cM, hnamed, hmethM, -, -, -, -, -, -, hsigM⟩ := Cond.codeWith_spec hcode
  have hstatic : methM.isStatic = true := Cond.static_spec hnamed hmethM hstat
  obtain ⟨kP, hkP, -⟩ := className_of_methodNamed hnamed
  have hinitP : kP.init = .initialized := Cond.initialized_spec (findClass_of_methodNamed hnamed) hkP hinit
  obtain ⟨vm₁, X₁, hstep₁⟩ := X.invokestatic hexec hown hlink hnamed hmethM hstatic hkP hinitP hy (g := g) hg (argsL := argsL) (rest := rest) (hlen _ hsigM) hstack hdg
  rcases hK m meth c ⟨T.setVm vm₁, locs, cells, slots⟩ { g with stack := rest } (.invokestatic index) mk argsL.toArray X₁ hg hsize hdg hW (X₁.named hnamed) (hpre vm₁ X₁.warmed) with ⟨v, B, X', hpost, hsteps⟩ | ⟨q, B, X', hpost, hsteps⟩
  · exact Or.inl ⟨v, vm₁, B, X₁.warmed, X', hpost, fun target h => hstep₁ _ fun acts => by rw [doInvoke_state]; exact hsteps.trans h⟩
  · exact Or.inr ⟨q, vm₁, B, X₁.warmed, X', hpost, hstep₁ _ fun acts => by rw [doInvoke_state]; exact hsteps⟩
theorem vx_callVW (X : Stand p l e R s m args below meth c T locs cells slots) (hexec : p.tables.exec = Jvm.exec) {own C : String} {index : Nat} {y : MethodName} {bytes : ByteArray} {maxL : Nat} {ret : Option FieldType} {hh : List (Nat × Nat × Nat × Nat)}
    (hown : s.vm.findClass own = some m.cls) (hlink : (Cond.methodLink own index y).before args s = true) (hinst : (Cond.instanceMethod y).before args s = true) (hsel : (Cond.selects C y y).before args s = true)
    (hcode : (Cond.codeWith y bytes maxL ret hh).before args s = true) (hy : y.cls ≠ "java/lang/invoke/MethodHandle" ∧ y.cls ≠ "java/lang/invoke/VarHandle")
    {W9 : Nat} {Pre : Pt → Array Value → Prop} {Post : Pt → Array Value → Option Value → Pt → Prop} (hK : Back l R p e below s args y 3 W9 Pre Post)
    {b : Addr} {cellB : Cell} (hcell : T.heap[b]? = some cellB) (hobj : cellB.vm.isStatics = false) (hcls : s.vm.findClass C = some cellB.cls)
    {g : JFrame} (hg : g.method = m) (hsize : g.locals.size = c.maxLocals) {argsL rest : List Value} (hlen : ∀ sig, parseMethodDescriptor y.desc = some sig → argsL.length = sig.parameters.length)
    (hstack : g.stack = argsL.reverse ++ .ref b :: rest) (hW : 2 * g.monitorRoom + (rest.map fun v => v.category).sum ≤ W9) (hdg : decode c.code g.pc = .ok (.invokevirtual index, 3))
    (hpre : ∀ vm₁, s.WarmedH vm₁ → Pre ⟨T.setVm vm₁, locs, cells, slots⟩ (Value.ref b :: argsL).toArray) :
    ∃ (v : Option Value) (vm₁ : Vm) (B : Pt), s.WarmedH vm₁ ∧ Stand p l e R s m args below meth c B.U B.locs B.cells B.slots ∧ Post ⟨T.setVm vm₁, locs, cells, slots⟩ (Value.ref b :: argsL).toArray v B ∧
      ∀ target, Steps p.tables e below (B.U.setTop { g with pc := g.pc + 3, stack := v.toList ++ rest }) target → Steps p.tables e below (T.setTop g) target := by
  obtain ⟨mk, methM, hnamed, hmethM, hstM, habM⟩ := Cond.instanceMethod_spec hinst
  obtain ⟨m8, methM', cM, hn8, hmethM', -, -, -, -, -, -, hsigM⟩ := Cond.codeWith_spec hcode
  cases Option.some.inj (hn8.symm.trans hnamed)
  cases hmethM.symm.trans hmethM'
  obtain ⟨c2, r2, m2, q1, q2, q3, q4, kP, hkP, hkPi⟩ := Cond.selects_spec hsel
  cases hcls.symm.trans q1
  cases (State.methodFound?_of_named hnamed hy).symm.trans q2
  cases hnamed.symm.trans q3
  have hselP : selectMethod e.platform s.vm cellB.cls mk = .method mk := by rw [Launch.admits_selectMethod X.admits]; exact q4
  obtain ⟨vm₁, X₁, hstep₁⟩ := X.invokevirtual hexec hown hlink hnamed hmethM hstM hkP hkPi hy (a := b) (cell := cellB) hcell
    (fun z h => by rw [h] at hobj; cases hobj) hselP hmethM habM hkP hkPi (g := g) hg (argsL := argsL) (rest := rest) (hlen _ hsigM) hstack hdg
  obtain ⟨v, B, X', hpost, hsteps⟩ := hK m meth c ⟨T.setVm vm₁, locs, cells, slots⟩ { g with stack := rest } (.invokevirtual index) mk (Value.ref b :: argsL).toArray X₁ hg hsize hdg hW (X₁.named hnamed) (hpre vm₁ X₁.warmed)
  exact ⟨v, vm₁, B, X₁.warmed, X', hpost, fun target h => hstep₁ _ fun acts => by rw [doInvoke_state]; exact hsteps.trans h⟩
abbrev vx_CVW (R : Room) (s : State) (args : Array Value) (own C : String) (index : Nat) (y : MethodName) (bytes : ByteArray) (maxL : Nat) (ret : Option FieldType) (hh : List (Nat × Nat × Nat × Nat)) (ws : List Cond) (rm : Room) (mc ms n : Nat) : Prop :=
  (rm.cells = mc ∧ rm.slots = ms ∧ rm.frames + 1 ≤ R.frames ∧ 8 + (maxL + 11) + rm.locals ≤ R.locals ∧ (∀ w ∈ ws, ∀ (a' : Array Value) (U : State), s.WarmedH U.vm → w.before a' U = true) ∧ Cond.codeWith y bytes maxL ret hh ∈ ws) ∧
  (Cond.codeWith y bytes maxL ret hh).before args s = true ∧ (Cond.initialized y.cls).before args s = true ∧ (y.cls ≠ "java/lang/invoke/MethodHandle" ∧ y.cls ≠ "java/lang/invoke/VarHandle") ∧
  (∀ sig, parseMethodDescriptor y.desc = some sig → n = sig.parameters.length) ∧ (Cond.methodLink own index y).before args s = true ∧ (Cond.instanceMethod y).before args s = true ∧ (Cond.selects C y y).before args s = true
theorem vx_cwVW {own C : String} {index maxL mc ms : Nat} {y : MethodName} {bytes : ByteArray} {ret : Option FieldType} {hh : List (Nat × Nat × Nat × Nat)} {Ts ws ws' : List Cond} {rm : Room} (n : Nat) (ht : ∀ w ∈ Ts, w.before args s = true) (hT : GoodIn Ts (wsV own index C y ws)) (hw : ws = Cond.codeWith y bytes maxL ret hh :: ws') (hrc : rm.cells = mc) (hrs : rm.slots = ms)
    (hd : y.cls = C ∧ y.cls ≠ "java/lang/invoke/MethodHandle" ∧ y.cls ≠ "java/lang/invoke/VarHandle" ∧ (parseMethodDescriptor y.desc).map (fun d => d.parameters.length) = some n) (hR : rm.frames + 1 ≤ R.frames ∧ 8 + (maxL + 11) + rm.locals ≤ R.locals) :
    vx_CVW R s args own C index y bytes maxL ret hh ws rm mc ms n := by
  obtain ⟨hC, hd⟩ := hd
  subst hC
  have ok : ∀ w ∈ wsV own index y.cls y ws, w.before args s = true := fun w h => ht w (hT w h).1
  have hG : GoodIn Ts ws := fun w h => hT w (by unfold wsV; exact List.mem_append_right _ h)
  have hc : Cond.codeWith y bytes maxL ret hh ∈ ws := by rw [hw]; exact List.mem_cons_self
  refine ⟨⟨hrc, hrs, hR.1, hR.2, pay_in ht hG, hc⟩, ht _ (hG _ hc).1, ok _ (by simp [wsV]), ⟨hd.1, hd.2.1⟩, fun sig h => ?_, ok _ (by simp [wsV]), ok _ (by simp [wsV]), ok _ (by simp [wsV])⟩
  have h2 := hd.2.2
  rw [h] at h2
  exact (Option.some.inj h2).symm
theorem vx_runVW {y : MethodName} {bytes cc : ByteArray} {maxL nL mc ms n index : Nat} {ret : Option FieldType} {hh : List (Nat × Nat × Nat × Nat)} {ws : List Cond} {rm : Room} {Pc : Array Value → State → Prop} {Qc : Array Value → State → Outcome → State → Prop} {free : Addr → Prop} {Ts : List Cond} {own C : String} {b : Addr} {As rest : List Value} {g : JFrame}
    (S : CallFix p m c cc nL s args Ts own) (hM : Met l y ws rm Pc Qc mc ms free) (cw : vx_CVW R s args own C index y bytes maxL ret hh ws rm mc ms n) (hp : PreV s H C b Pc As)
    (hg : g.method = m) (hn : As.length = n) (hsize : g.locals.size = nL) (hstack : g.stack = As.reverse ++ .ref b :: rest) (hW : 2 * g.monitorRoom + (rest.map fun v => v.category).sum ≤ 8) (hdg : decode cc g.pc = .ok (.invokevirtual index, 3)) (hf : cells + mc ≤ R.cells ∧ slots + ms ≤ R.slots) :
    va_Run p l e R s m args below meth c H locs cells slots mc ms g rest (Qc (Value.ref b :: As).toArray) free := by
  obtain ⟨⟨hrc, hrs, hfr, hlo, hws, hcw⟩, hcode, hini, hy, hlen, hl, hin, hse⟩ := cw
  have hK : Back l R p e below s args y 3 8 (PreOf R mc ms Pc) (PostOf Qc mc ms free) := va_backW (hh := hh) (bytes := bytes) (maxL := maxL) (ret := ret) hM hp.1 hrc hrs hfr hlo hws hcw (fun a' U hW => word_at hW (Or.inl (by first | rfl | simp [Cond.onTables, Cond.keeps, Cond.steady])) hini)
  obtain ⟨hx, hb, hml, ho, -⟩ := S
  obtain ⟨-, ⟨cellB, hcB, hoB, hclB⟩, hPc⟩ := hp
  intro T hT X
  obtain ⟨v, vm₁, ⟨U', l2, c2, s2⟩, hW₁, X', ⟨g', mk, t, L, e1, e2, hq, h1, hL, h2, h3⟩, st⟩ := vx_callVW X hx (C := C) (hh := hh) (bytes := bytes) (maxL := maxL) (ret := ret) ho hl hin hse hcode hy hK (by rw [hT]; exact hcB) hoB hclB hg (hsize.trans hml.symm) (argsL := As) (rest := rest) (fun sig h => hn.trans (hlen sig h)) hstack hW (by rw [hb]; exact hdg)
    (fun vm₁ hW₁ => ⟨hf.1, hf.2, hPc (T.setVm vm₁) hT hW₁⟩)
  dsimp only [Pt.U, Pt.locs, Pt.cells, Pt.slots] at X' e1 e2 h1 h2 h3 st
  subst h1; subst h2; subst h3
  exact ⟨v, (T.setVm vm₁).calling g' mk (Value.ref b :: As).toArray, t, U', L, hT, X', hL, e1, e2, hq, st⟩
section
variable {y : MethodName} {bytes cc : ByteArray} {maxL nL mc ms n index : Nat} {ret : Option FieldType} {ws : List Cond} {rm : Room} {Pc : Array Value → State → Prop} {Qc : Array Value → State → Outcome → State → Prop} {XC : String → State → State → Prop} {free : Addr → Prop} {Ts : List Cond} {own C : String} {b : Addr} {As rest : List Value} {g : JFrame}
theorem vx_runVX {hh : List (Nat × Nat × Nat × Nat)} (S : CallFix p m c cc nL s args Ts own) (hM : vx_Met l y ws rm Pc Qc XC mc ms free) (cw : vx_CVW R s args own C index y bytes maxL ret hh ws rm mc ms n) (hp : PreV s H C b Pc As)
    (hg : g.method = m) (hn : As.length = n) (hsize : g.locals.size = nL) (hstack : g.stack = As.reverse ++ .ref b :: rest) (hW : 2 * g.monitorRoom + (rest.map fun v => v.category).sum ≤ 8) (hdg : decode cc g.pc = .ok (.invokevirtual index, 3)) (hf : cells + mc ≤ R.cells ∧ slots + ms ≤ R.slots) :
    vx_Run p l e R s m args below meth c H locs cells slots mc ms g rest (Qc (Value.ref b :: As).toArray) XC free := by
  obtain ⟨⟨hrc, hrs, hfr, hlo, hws, hcw⟩, hcode, hini, hy, hlen, hl, hin, hse⟩ := cw
  have hK : vx_Back l R p e below s args y 3 8 (PreOf R mc ms Pc) (PostOf Qc mc ms free) (vx_Post XC mc ms free) := vx_backW (hh := hh) (bytes := bytes) (maxL := maxL) (ret := ret) hM hp.1 hrc hrs hfr hlo hws hcw (fun a' U hW => word_at hW (Or.inl (by first | rfl | simp [Cond.onTables, Cond.keeps, Cond.steady])) hini)
  obtain ⟨hx, hb, hml, ho, -⟩ := S
  obtain ⟨-, ⟨cellB, hcB, hoB, hclB⟩, hPc⟩ := hp
  intro T hT X
  rcases vx_callVX X hx (C := C) (hh := hh) (bytes := bytes) (maxL := maxL) (ret := ret) ho hl hin hse hcode hy hK (by rw [hT]; exact hcB) hoB hclB hg (hsize.trans hml.symm) (argsL := As) (rest := rest) (fun sig h => hn.trans (hlen sig h)) hstack hW (by rw [hb]; exact hdg)
    (fun vm₁ hW₁ => ⟨hf.1, hf.2, hPc (T.setVm vm₁) hT hW₁⟩) with ⟨v, vm₁, ⟨U', l2, c2, s2⟩, hW₁, X', ⟨g', mk, t, L, e1, e2, hq, h1, hL, h2, h3⟩, st⟩ | ⟨q, vm₁, ⟨U', l2, c2, s2⟩, hW₁, X', ⟨g', mk, t, L, E, ce, e1, e2, hq, hce, hcv, hcl, h1, hL, h2, h3⟩, st⟩
  · dsimp only [Pt.U, Pt.locs, Pt.cells, Pt.slots] at X' e1 e2 h1 h2 h3 st
    subst h1; subst h2; subst h3
    exact Or.inl ⟨v, (T.setVm vm₁).calling g' mk (Value.ref b :: As).toArray, t, U', L, hT, X', hL, e1, e2, hq, st⟩
  · dsimp only [Pt.U, Pt.locs, Pt.cells, Pt.slots] at X' e1 e2 h1 h2 h3 st hcl
    subst h1; subst h2; subst h3
    exact Or.inr ⟨q, (T.setVm vm₁).calling g' mk (Value.ref b :: As).toArray, t, U', L, E, ce, hT, X', hL, e1, e2, hq, hce, hcv, vx_cls hW₁ hcl, st⟩
theorem vx_runSX {hh : List (Nat × Nat × Nat × Nat)} (S : CallFix p m c cc nL s args Ts own) (hM : vx_Met l y ws rm Pc Qc XC mc ms free) (cw : vx_CSW R s args own index y bytes maxL ret hh ws rm mc ms n) (hp : PreS s H Pc As)
    (hg : g.method = m) (hn : As.length = n) (hsize : g.locals.size = nL) (hstack : g.stack = As.reverse ++ rest) (hW : 2 * g.monitorRoom + (rest.map fun v => v.category).sum ≤ 8) (hdg : decode cc g.pc = .ok (.invokestatic index, 3)) (hf : cells + mc ≤ R.cells ∧ slots + ms ≤ R.slots) :
    vx_Run p l e R s m args below meth c H locs cells slots mc ms g rest (Qc As.toArray) XC free := by
  obtain ⟨⟨hrc, hrs, hfr, hlo, hws, hcw⟩, hcode, hini, hy, hlen, hl, hstt⟩ := cw
  have hK : vx_Back l R p e below s args y 3 8 (PreOf R mc ms Pc) (PostOf Qc mc ms free) (vx_Post XC mc ms free) := vx_backW (hh := hh) (bytes := bytes) (maxL := maxL) (ret := ret) hM hp.1 hrc hrs hfr hlo hws hcw (fun a' U hW => word_at hW (Or.inl (by first | rfl | simp [Cond.onTables, Cond.keeps, Cond.steady])) hini)
  obtain ⟨hx, hb, hml, ho, -⟩ := S
  intro T hT X
  rcases vx_callSX X hx (hh := hh) (bytes := bytes) (maxL := maxL) (ret := ret) ho hl hstt hini hcode hy hK hg (hsize.trans hml.symm) (argsL := As) (rest := rest) (fun sig h => hn.trans (hlen sig h)) hstack hW (by rw [hb]; exact hdg)
    (fun vm₁ hW₁ => ⟨hf.1, hf.2, hp.2 (T.setVm vm₁) hT hW₁⟩) with ⟨v, vm₁, ⟨U', l2, c2, s2⟩, hW₁, X', ⟨g', mk, t, L, e1, e2, hq, h1, hL, h2, h3⟩, st⟩ | ⟨q, vm₁, ⟨U', l2, c2, s2⟩, hW₁, X', ⟨g', mk, t, L, E, ce, e1, e2, hq, hce, hcv, hcl, h1, hL, h2, h3⟩, st⟩
  · dsimp only [Pt.U, Pt.locs, Pt.cells, Pt.slots] at X' e1 e2 h1 h2 h3 st
    subst h1; subst h2; subst h3
    exact Or.inl ⟨v, (T.setVm vm₁).calling g' mk As.toArray, t, U', L, hT, X', hL, e1, e2, hq, st⟩
  · dsimp only [Pt.U, Pt.locs, Pt.cells, Pt.slots] at X' e1 e2 h1 h2 h3 st hcl
    subst h1; subst h2; subst h3
    exact Or.inr ⟨q, (T.setVm vm₁).calling g' mk As.toArray, t, U', L, E, ce, hT, X', hL, e1, e2, hq, hce, hcv, vx_cls hW₁ hcl, st⟩
end
end VXH
theorem vx_ofWH {l : Launch} {y : MethodName} {ws ws' : List Cond} {rm : Room} {Pc : Array Value → State → Prop} {Qc : Array Value → State → Outcome → State → Prop} {XC : String → State → State → Prop} {mc ms : Nat} {free : Addr → Prop} {cc : ByteArray} {maxL : Nat} {ret : Option FieldType} {hh : List (Nat × Nat × Nat × Nat)}
    (hy : plainName y.cls = true) (hw : ws = Cond.codeWith y cc maxL ret hh :: ws')
    (body : ∀ p e s m args below meth c s₁, BodyLoose p l y (headSpec ws rm) cc maxL ret e s m args below meth c s₁ → c.maxLocals = maxL → Pc args s →
      W p l e (headSpec ws rm).room s m args below meth c s.heap [] 0 0 (vx_MQ below Qc XC args s mc ms free) (entryFrame m args maxL)) : vx_Met l y ws rm Pc Qc XC mc ms free := by
  refine MetFree.of_bodyS (code := cc) (maxLocals := maxL) (ret := ret) hy ?_ ?_
  · intro args s m h hn
    obtain ⟨m9, meth, c, hn9, h1, h2, h3, h4, -, h5, h6, -⟩ := Cond.codeWith_spec (atoms_spec (ws := ws) h _ (by rw [hw]; exact List.mem_cons_self))
    cases hn.symm.trans hn9
    exact ⟨meth, c, h1, h2, h3, h4, h5, h6⟩
  · intro p e s m args below meth c s₁ B hml hP _
    have hh0 : s₁.heap = s.heap := by rw [B.state]; rfl
    obtain ⟨t, a1, o, b1, b2, b3⟩ := body p e s m args below meth c s₁ B hml hP s₁ hh0 (Stand.of_body B)
    exact ⟨t, o, a1, b1, b2, b3⟩
/-! ===== END ===== -/
end
section
def RX0 : String := "RoamBooks$Account"
def TX0 : u_T := fun k => match k with
  | 0 => ("RoamBooks$Account", "records", "Ljava/util/ArrayList;", true)
  | 1 => ("RoamBooks$Account", "files", "I", false)
  | _ => ("RoamBooks$Account", "filesTaken", "I", false)
def tyX0 : Nat → FieldType := fun k => match k with
  | 0 => .object "java/util/ArrayList"
  | 1 => .int
  | _ => .int
theorem nmX0 : ∀ a, a < 3 → ∀ b, b < 3 → a ≠ b → (TX0 a).2.1 ≠ (TX0 b).2.1 := by decide +kernel
theorem tyX0_ok : ∀ k, k < 3 → parseFieldDescriptor (TX0 k).2.2.1 = some (tyX0 k) := by decide +kernel
abbrev cX0_init : ByteArray := prog_2_method_1_code
def yX0_init : MethodName := ⟨RX0, "<init>", "()V"⟩
abbrev cX0_minutesThatAre : ByteArray := prog_2_method_2_code
def yX0_minutesThatAre : MethodName := ⟨RX0, "minutesThatAre", "(I)I"⟩
abbrev cX0_hasUnfiled : ByteArray := prog_2_method_3_code
def yX0_hasUnfiled : MethodName := ⟨RX0, "hasUnfiled", "()Z"⟩
abbrev cX0_fileTheRest : ByteArray := prog_2_method_4_code
def yX0_fileTheRest : MethodName := ⟨RX0, "fileTheRest", "()I"⟩
abbrev cX0_takeNextFile : ByteArray := prog_2_method_5_code
def yX0_takeNextFile : MethodName := ⟨RX0, "takeNextFile", "(I)I"⟩
abbrev cX0_owed : ByteArray := prog_2_method_6_code
def yX0_owed : MethodName := ⟨RX0, "owed", "()I"⟩
abbrev cX0_owedFileByFile : ByteArray := prog_2_method_7_code
def yX0_owedFileByFile : MethodName := ⟨RX0, "owedFileByFile", "()I"⟩
abbrev cX0_minutesTakenIn : ByteArray := prog_2_method_8_code
def yX0_minutesTakenIn : MethodName := ⟨RX0, "minutesTakenIn", "(I)I"⟩
abbrev cX0_owedIn : ByteArray := prog_2_method_9_code
def yX0_owedIn : MethodName := ⟨RX0, "owedIn", "(II)I"⟩
def RX1 : String := "RoamBooks$Agreement"
def TX1 : u_T := fun k => match k with
  | 0 => ("RoamBooks$Agreement", "home", "I", true)
  | 1 => ("RoamBooks$Agreement", "visited", "I", true)
  | 2 => ("RoamBooks$Agreement", "from", "I", true)
  | 3 => ("RoamBooks$Agreement", "to", "I", true)
  | 4 => ("RoamBooks$Agreement", "price", "I", true)
  | 5 => ("RoamBooks$Agreement", "threshold", "I", true)
  | _ => ("RoamBooks$Agreement", "lower", "I", true)
def tyX1 : Nat → FieldType := fun k => match k with
  | 0 => .int
  | 1 => .int
  | 2 => .int
  | 3 => .int
  | 4 => .int
  | 5 => .int
  | _ => .int
theorem nmX1 : ∀ a, a < 7 → ∀ b, b < 7 → a ≠ b → (TX1 a).2.1 ≠ (TX1 b).2.1 := by decide +kernel
theorem tyX1_ok : ∀ k, k < 7 → parseFieldDescriptor (TX1 k).2.2.1 = some (tyX1 k) := by decide +kernel
abbrev cX1_init : ByteArray := prog_3_method_1_code
def yX1_init : MethodName := ⟨RX1, "<init>", "(IIIIIII)V"⟩
abbrev cX1_holds : ByteArray := prog_3_method_2_code
def yX1_holds : MethodName := ⟨RX1, "holds", "(III)Z"⟩
abbrev cX1_priceAt : ByteArray := prog_3_method_3_code
def yX1_priceAt : MethodName := ⟨RX1, "priceAt", "(I)I"⟩
def RX2 : String := "RoamBooks$Book"
def TX2 : u_T := fun k => match k with
  | _ => ("RoamBooks$Book", "contacts", "[I", true)
def tyX2 : Nat → FieldType := fun k => match k with
  | _ => .array .int
theorem nmX2 : ∀ a, a < 1 → ∀ b, b < 1 → a ≠ b → (TX2 a).2.1 ≠ (TX2 b).2.1 := by decide +kernel
theorem tyX2_ok : ∀ k, k < 1 → parseFieldDescriptor (TX2 k).2.2.1 = some (tyX2 k) := by decide +kernel
abbrev cX2_init : ByteArray := prog_4_method_1_code
def yX2_init : MethodName := ⟨RX2, "<init>", "()V"⟩
abbrev cX2_latest : ByteArray := prog_4_method_2_code
def yX2_latest : MethodName := ⟨RX2, "latest", "(I)I"⟩
abbrev cX2_has : ByteArray := prog_4_method_3_code
def yX2_has : MethodName := ⟨RX2, "has", "(I)Z"⟩
abbrev cX2_put : ByteArray := prog_4_method_4_code
def yX2_put : MethodName := ⟨RX2, "put", "(II)V"⟩
abbrev cX2_takeOut : ByteArray := prog_4_method_5_code
def yX2_takeOut : MethodName := ⟨RX2, "takeOut", "(I)V"⟩
abbrev cX2_takeOutUpTo : ByteArray := prog_4_method_6_code
def yX2_takeOutUpTo : MethodName := ⟨RX2, "takeOutUpTo", "(I)V"⟩
abbrev cX2_clear : ByteArray := prog_4_method_7_code
def yX2_clear : MethodName := ⟨RX2, "clear", "()V"⟩
abbrev cX2_count : ByteArray := prog_4_method_8_code
def yX2_count : MethodName := ⟨RX2, "count", "()I"⟩
abbrev cX2_isLine : ByteArray := prog_4_method_9_code
def yX2_isLine : MethodName := ⟨RX2, "isLine", "(I)Z"⟩
def RX3 : String := "RoamBooks$Call"
def TX3 : u_T := fun k => match k with
  | 0 => ("RoamBooks$Call", "caller", "I", true)
  | 1 => ("RoamBooks$Call", "callerPaid", "I", true)
  | 2 => ("RoamBooks$Call", "called", "I", true)
  | _ => ("RoamBooks$Call", "calledPaid", "I", true)
def tyX3 : Nat → FieldType := fun k => match k with
  | 0 => .int
  | 1 => .int
  | 2 => .int
  | _ => .int
theorem nmX3 : ∀ a, a < 4 → ∀ b, b < 4 → a ≠ b → (TX3 a).2.1 ≠ (TX3 b).2.1 := by decide +kernel
theorem tyX3_ok : ∀ k, k < 4 → parseFieldDescriptor (TX3 k).2.2.1 = some (tyX3 k) := by decide +kernel
abbrev cX3_init : ByteArray := prog_5_method_1_code
def yX3_init : MethodName := ⟨RX3, "<init>", "(IIII)V"⟩
abbrev cX3_paidBy : ByteArray := prog_5_method_2_code
def yX3_paidBy : MethodName := ⟨RX3, "paidBy", "(I)I"⟩
def RX4 : String := "RoamBooks$CallRecord"
def TX4 : u_T := fun k => match k with
  | 0 => ("RoamBooks$CallRecord", "minutes", "I", true)
  | 1 => ("RoamBooks$CallRecord", "made", "I", true)
  | 2 => ("RoamBooks$CallRecord", "agreement", "LRoamBooks$Agreement;", true)
  | 3 => ("RoamBooks$CallRecord", "state", "I", false)
  | _ => ("RoamBooks$CallRecord", "inFile", "I", false)
def tyX4 : Nat → FieldType := fun k => match k with
  | 0 => .int
  | 1 => .int
  | 2 => .object "RoamBooks$Agreement"
  | 3 => .int
  | _ => .int
theorem nmX4 : ∀ a, a < 5 → ∀ b, b < 5 → a ≠ b → (TX4 a).2.1 ≠ (TX4 b).2.1 := by decide +kernel
theorem tyX4_ok : ∀ k, k < 5 → parseFieldDescriptor (TX4 k).2.2.1 = some (tyX4 k) := by decide +kernel
abbrev cX4_init : ByteArray := prog_6_method_1_code
def yX4_init : MethodName := ⟨RX4, "<init>", "(IILRoamBooks$Agreement;)V"⟩
abbrev cX4_owed : ByteArray := prog_6_method_2_code
def yX4_owed : MethodName := ⟨RX4, "owed", "(I)I"⟩
def RX5 : String := "RoamBooks$Network"
def TX5 : u_T := fun k => match k with
  | 0 => ("RoamBooks$Network", "book", "LRoamBooks$Book;", true)
  | 1 => ("RoamBooks$Network", "dead", "Z", false)
  | 2 => ("RoamBooks$Network", "favourite", "I", false)
  | 3 => ("RoamBooks$Network", "priceAtHome", "I", false)
  | 4 => ("RoamBooks$Network", "priceAbroad", "I", false)
  | 5 => ("RoamBooks$Network", "priceCalled", "I", false)
  | _ => ("RoamBooks$Network", "noticesToLose", "I", false)
def tyX5 : Nat → FieldType := fun k => match k with
  | 0 => .object "RoamBooks$Book"
  | 1 => .boolean
  | 2 => .int
  | 3 => .int
  | 4 => .int
  | 5 => .int
  | _ => .int
theorem nmX5 : ∀ a, a < 7 → ∀ b, b < 7 → a ≠ b → (TX5 a).2.1 ≠ (TX5 b).2.1 := by decide +kernel
theorem tyX5_ok : ∀ k, k < 7 → parseFieldDescriptor (TX5 k).2.2.1 = some (tyX5 k) := by decide +kernel
abbrev cX5_init : ByteArray := prog_7_method_1_code
def yX5_init : MethodName := ⟨RX5, "<init>", "()V"⟩
def RX6 : String := "RoamBooks$Subscriber"
def TX6 : u_T := fun k => match k with
  | 0 => ("RoamBooks$Subscriber", "number", "I", true)
  | 1 => ("RoamBooks$Subscriber", "home", "I", true)
  | 2 => ("RoamBooks$Subscriber", "forbidden", "I", true)
  | 3 => ("RoamBooks$Subscriber", "place", "I", false)
  | 4 => ("RoamBooks$Subscriber", "attached", "I", false)
  | 5 => ("RoamBooks$Subscriber", "note", "I", false)
  | 6 => ("RoamBooks$Subscriber", "steered", "I", false)
  | 7 => ("RoamBooks$Subscriber", "cap", "I", false)
  | 8 => ("RoamBooks$Subscriber", "consents", "Z", false)
  | 9 => ("RoamBooks$Subscriber", "paid", "I", false)
  | _ => ("RoamBooks$Subscriber", "paidAbroad", "I", false)
def tyX6 : Nat → FieldType := fun k => match k with
  | 0 => .int
  | 1 => .int
  | 2 => .int
  | 3 => .int
  | 4 => .int
  | 5 => .int
  | 6 => .int
  | 7 => .int
  | 8 => .boolean
  | 9 => .int
  | _ => .int
theorem nmX6 : ∀ a, a < 11 → ∀ b, b < 11 → a ≠ b → (TX6 a).2.1 ≠ (TX6 b).2.1 := by decide +kernel
theorem tyX6_ok : ∀ k, k < 11 → parseFieldDescriptor (TX6 k).2.2.1 = some (tyX6 k) := by decide +kernel
abbrev cX6_init : ByteArray := prog_8_method_1_code
def yX6_init : MethodName := ⟨RX6, "<init>", "(IIII)V"⟩
abbrev cX6_isAbroad : ByteArray := prog_8_method_2_code
def yX6_isAbroad : MethodName := ⟨RX6, "isAbroad", "()Z"⟩
abbrev cX6_wouldComeAboveCap : ByteArray := prog_8_method_3_code
def yX6_wouldComeAboveCap : MethodName := ⟨RX6, "wouldComeAboveCap", "(I)Z"⟩
abbrev cX6_isWarned : ByteArray := prog_8_method_4_code
def yX6_isWarned : MethodName := ⟨RX6, "isWarned", "()Z"⟩
def RX7 : String := "RoamBooks"
def TX7 : u_T := fun k => match k with
  | 0 => ("RoamBooks", "received", "[I", true)
  | 1 => ("RoamBooks", "networks", "[LRoamBooks$Network;", true)
  | 2 => ("RoamBooks", "accounts", "[LRoamBooks$Account;", true)
  | 3 => ("RoamBooks", "agreements", "Ljava/util/ArrayList;", true)
  | 4 => ("RoamBooks", "subscribers", "Ljava/util/ArrayList;", true)
  | 5 => ("RoamBooks", "calls", "Ljava/util/ArrayList;", true)
  | _ => ("RoamBooks", "minute", "I", false)
def tyX7 : Nat → FieldType := fun k => match k with
  | 0 => .array .int
  | 1 => .array (.object "RoamBooks$Network")
  | 2 => .array (.object "RoamBooks$Account")
  | 3 => .object "java/util/ArrayList"
  | 4 => .object "java/util/ArrayList"
  | 5 => .object "java/util/ArrayList"
  | _ => .int
theorem nmX7 : ∀ a, a < 7 → ∀ b, b < 7 → a ≠ b → (TX7 a).2.1 ≠ (TX7 b).2.1 := by decide +kernel
theorem tyX7_ok : ∀ k, k < 7 → parseFieldDescriptor (TX7 k).2.2.1 = some (tyX7 k) := by decide +kernel
abbrev cX7_init : ByteArray := prog_1_method_1_code
def yX7_init : MethodName := ⟨RX7, "<init>", "()V"⟩
abbrev cX7_reach : ByteArray := prog_1_method_2_code
def yX7_reach : MethodName := ⟨RX7, "reach", "(II)I"⟩
abbrev cX7_dead : ByteArray := prog_1_method_3_code
def yX7_dead : MethodName := ⟨RX7, "dead", "(IZ)Z"⟩
abbrev cX7_agree : ByteArray := prog_1_method_4_code
def yX7_agree : MethodName := ⟨RX7, "agree", "(IIIIIII)I"⟩
abbrev cX7_steer : ByteArray := prog_1_method_5_code
def yX7_steer : MethodName := ⟨RX7, "steer", "(II)I"⟩
abbrev cX7_prices : ByteArray := prog_1_method_6_code
def yX7_prices : MethodName := ⟨RX7, "prices", "(IIII)V"⟩
abbrev cX7_lose : ByteArray := prog_1_method_7_code
def yX7_lose : MethodName := ⟨RX7, "lose", "(II)I"⟩
abbrev cX7_crash : ByteArray := prog_1_method_8_code
def yX7_crash : MethodName := ⟨RX7, "crash", "(I)I"⟩
abbrev cX7_subscriber : ByteArray := prog_1_method_9_code
def yX7_subscriber : MethodName := ⟨RX7, "subscriber", "(III)I"⟩
abbrev cX7_move : ByteArray := prog_1_method_10_code
def yX7_move : MethodName := ⟨RX7, "move", "(II)I"⟩
abbrev cX7_off : ByteArray := prog_1_method_11_code
def yX7_off : MethodName := ⟨RX7, "off", "(I)I"⟩
abbrev cX7_attach : ByteArray := prog_1_method_12_code
def yX7_attach : MethodName := ⟨RX7, "attach", "(II)I"⟩
abbrev cX7_emergency : ByteArray := prog_1_method_13_code
def yX7_emergency : MethodName := ⟨RX7, "emergency", "(I)I"⟩
abbrev cX7_where : ByteArray := prog_1_method_14_code
def yX7_where : MethodName := ⟨RX7, "where", "(I)I"⟩
abbrev cX7_contact : ByteArray := prog_1_method_15_code
def yX7_contact : MethodName := ⟨RX7, "contact", "(II)I"⟩
abbrev cX7_agrees : ByteArray := prog_1_method_16_code
def yX7_agrees : MethodName := ⟨RX7, "agrees", "(I)Z"⟩
abbrev cX7_subscriberIs : ByteArray := prog_1_method_17_code
def yX7_subscriberIs : MethodName := ⟨RX7, "subscriberIs", "(II)I"⟩
abbrev cX7_cap : ByteArray := prog_1_method_18_code
def yX7_cap : MethodName := ⟨RX7, "cap", "(IIZ)V"⟩
abbrev cX7_call : ByteArray := prog_1_method_19_code
def yX7_call : MethodName := ⟨RX7, "call", "(III)I"⟩
abbrev cX7_paidAnew : ByteArray := prog_1_method_20_code
def yX7_paidAnew : MethodName := ⟨RX7, "paidAnew", "(I)I"⟩
abbrev cX7_file : ByteArray := prog_1_method_21_code
def yX7_file : MethodName := ⟨RX7, "file", "(II)I"⟩
abbrev cX7_deliver : ByteArray := prog_1_method_22_code
def yX7_deliver : MethodName := ⟨RX7, "deliver", "(III)I"⟩
abbrev cX7_owes : ByteArray := prog_1_method_23_code
def yX7_owes : MethodName := ⟨RX7, "owes", "(II)I"⟩
abbrev cX7_owesAnew : ByteArray := prog_1_method_24_code
def yX7_owesAnew : MethodName := ⟨RX7, "owesAnew", "(II)I"⟩
abbrev cX7_recorded : ByteArray := prog_1_method_25_code
def yX7_recorded : MethodName := ⟨RX7, "recorded", "(III)I"⟩
abbrev cX7_pass : ByteArray := prog_1_method_26_code
def yX7_pass : MethodName := ⟨RX7, "pass", "(I)I"⟩
abbrev cX7_requireRange : ByteArray := prog_1_method_27_code
def yX7_requireRange : MethodName := ⟨RX7, "requireRange", "(III)V"⟩
abbrev cX7_requireDifferent : ByteArray := prog_1_method_28_code
def yX7_requireDifferent : MethodName := ⟨RX7, "requireDifferent", "(II)V"⟩
abbrev cX7_requireRoom : ByteArray := prog_1_method_29_code
def yX7_requireRoom : MethodName := ⟨RX7, "requireRoom", "(II)V"⟩
abbrev cX7_requireNetwork : ByteArray := prog_1_method_30_code
def yX7_requireNetwork : MethodName := ⟨RX7, "requireNetwork", "(I)V"⟩
abbrev cX7_requirePlace : ByteArray := prog_1_method_31_code
def yX7_requirePlace : MethodName := ⟨RX7, "requirePlace", "(I)V"⟩
abbrev cX7_networkAt : ByteArray := prog_1_method_32_code
def yX7_networkAt : MethodName := ⟨RX7, "networkAt", "(I)LRoamBooks$Network;"⟩
abbrev cX7_receivedAt : ByteArray := prog_1_method_33_code
def yX7_receivedAt : MethodName := ⟨RX7, "receivedAt", "(I)I"⟩
abbrev cX7_subscriberAt : ByteArray := prog_1_method_34_code
def yX7_subscriberAt : MethodName := ⟨RX7, "subscriberAt", "(I)LRoamBooks$Subscriber;"⟩
abbrev cX7_accountOf : ByteArray := prog_1_method_35_code
def yX7_accountOf : MethodName := ⟨RX7, "accountOf", "(II)LRoamBooks$Account;"⟩
abbrev cX7_isIn : ByteArray := prog_1_method_36_code
def yX7_isIn : MethodName := ⟨RX7, "isIn", "(II)Z"⟩
abbrev cX7_detachIfNotReceived : ByteArray := prog_1_method_37_code
def yX7_detachIfNotReceived : MethodName := ⟨RX7, "detachIfNotReceived", "(LRoamBooks$Subscriber;)V"⟩
abbrev cX7_detachAllFrom : ByteArray := prog_1_method_38_code
def yX7_detachAllFrom : MethodName := ⟨RX7, "detachAllFrom", "(I)V"⟩
abbrev cX7_agreementNow : ByteArray := prog_1_method_39_code
def yX7_agreementNow : MethodName := ⟨RX7, "agreementNow", "(II)LRoamBooks$Agreement;"⟩
abbrev cX7_whyNotUsable : ByteArray := prog_1_method_40_code
def yX7_whyNotUsable : MethodName := ⟨RX7, "whyNotUsable", "(LRoamBooks$Subscriber;I)I"⟩
abbrev cX7_isSteered : ByteArray := prog_1_method_41_code
def yX7_isSteered : MethodName := ⟨RX7, "isSteered", "(LRoamBooks$Subscriber;I)Z"⟩
abbrev cX7_makeContact : ByteArray := prog_1_method_42_code
def yX7_makeContact : MethodName := ⟨RX7, "makeContact", "(LRoamBooks$Subscriber;I)V"⟩
abbrev cX7_beginHours : ByteArray := prog_1_method_43_code
def yX7_beginHours : MethodName := ⟨RX7, "beginHours", "(II)V"⟩
abbrev cX7_beginHour : ByteArray := prog_1_method_44_code
def yX7_beginHour : MethodName := ⟨RX7, "beginHour", "(I)V"⟩
abbrev cX7_beginMonth : ByteArray := prog_1_method_45_code
def yX7_beginMonth : MethodName := ⟨RX7, "beginMonth", "()V"⟩
abbrev cX7_whyNotFound : ByteArray := prog_1_method_46_code
def yX7_whyNotFound : MethodName := ⟨RX7, "whyNotFound", "(LRoamBooks$Subscriber;LRoamBooks$Subscriber;)I"⟩
abbrev cX7_priceOfCalling : ByteArray := prog_1_method_47_code
def yX7_priceOfCalling : MethodName := ⟨RX7, "priceOfCalling", "(LRoamBooks$Subscriber;)I"⟩
abbrev cX7_priceOfBeingCalled : ByteArray := prog_1_method_48_code
def yX7_priceOfBeingCalled : MethodName := ⟨RX7, "priceOfBeingCalled", "(LRoamBooks$Subscriber;)I"⟩
abbrev cX7_settle : ByteArray := prog_1_method_49_code
def yX7_settle : MethodName := ⟨RX7, "settle", "(LRoamBooks$Subscriber;II)V"⟩
def RX8 : String := "RoamBooksModel"
def TX8 : u_T := fun k => match k with
  | _ => ("", "", "", false)
def tyX8 : Nat → FieldType := fun k => match k with
  | _ => .int
theorem nmX8 : ∀ a, a < 0 → ∀ b, b < 0 → a ≠ b → (TX8 a).2.1 ≠ (TX8 b).2.1 := by decide +kernel
theorem tyX8_ok : ∀ k, k < 0 → parseFieldDescriptor (TX8 k).2.2.1 = some (tyX8 k) := by decide +kernel
def RJx145de : String := "java/io/Serializable"
def TJx145de : u_T := fun k => match k with
  | _ => ("", "", "", false)
def tyJx145de : Nat → FieldType := fun k => match k with
  | _ => .int
theorem nmJx145de : ∀ a, a < 0 → ∀ b, b < 0 → a ≠ b → (TJx145de a).2.1 ≠ (TJx145de b).2.1 := by decide +kernel
theorem tyJx145de_ok : ∀ k, k < 0 → parseFieldDescriptor (TJx145de k).2.2.1 = some (tyJx145de k) := by decide +kernel
def RJx8e188 : String := "java/lang/Cloneable"
def TJx8e188 : u_T := fun k => match k with
  | _ => ("", "", "", false)
def tyJx8e188 : Nat → FieldType := fun k => match k with
  | _ => .int
theorem nmJx8e188 : ∀ a, a < 0 → ∀ b, b < 0 → a ≠ b → (TJx8e188 a).2.1 ≠ (TJx8e188 b).2.1 := by decide +kernel
theorem tyJx8e188_ok : ∀ k, k < 0 → parseFieldDescriptor (TJx8e188 k).2.2.1 = some (tyJx8e188 k) := by decide +kernel
def RJxab1ab : String := "java/lang/Iterable"
def TJxab1ab : u_T := fun k => match k with
  | _ => ("", "", "", false)
def tyJxab1ab : Nat → FieldType := fun k => match k with
  | _ => .int
theorem nmJxab1ab : ∀ a, a < 0 → ∀ b, b < 0 → a ≠ b → (TJxab1ab a).2.1 ≠ (TJxab1ab b).2.1 := by decide +kernel
theorem tyJxab1ab_ok : ∀ k, k < 0 → parseFieldDescriptor (TJxab1ab k).2.2.1 = some (tyJxab1ab k) := by decide +kernel
def RJ9 : String := "java/lang/Math"
def TJ9 : u_T := fun k => match k with
  | _ => ("", "", "", false)
def tyJ9 : Nat → FieldType := fun k => match k with
  | _ => .int
theorem nmJ9 : ∀ a, a < 0 → ∀ b, b < 0 → a ≠ b → (TJ9 a).2.1 ≠ (TJ9 b).2.1 := by decide +kernel
theorem tyJ9_ok : ∀ k, k < 0 → parseFieldDescriptor (TJ9 k).2.2.1 = some (tyJ9 k) := by decide +kernel
abbrev cJ9_max_7cf53 : ByteArray := prog_18_method_65_code
def yJ9_max_7cf53 : MethodName := ⟨RJ9, "max", "(II)I"⟩
abbrev cJ9_min_7cf53 : ByteArray := prog_18_method_69_code
def yJ9_min_7cf53 : MethodName := ⟨RJ9, "min", "(II)I"⟩
def RJ0 : String := "java/lang/String"
def TJ0 : u_T := fun k => match k with
  | _ => ("", "", "", false)
def tyJ0 : Nat → FieldType := fun k => match k with
  | _ => .int
theorem nmJ0 : ∀ a, a < 0 → ∀ b, b < 0 → a ≠ b → (TJ0 a).2.1 ≠ (TJ0 b).2.1 := by decide +kernel
theorem tyJ0_ok : ∀ k, k < 0 → parseFieldDescriptor (TJ0 k).2.2.1 = some (tyJ0 k) := by decide +kernel
def RJ10 : String := "java/lang/System"
def TJ10 : u_T := fun k => match k with
  | _ => ("", "", "", false)
def tyJ10 : Nat → FieldType := fun k => match k with
  | _ => .int
theorem nmJ10 : ∀ a, a < 0 → ∀ b, b < 0 → a ≠ b → (TJ10 a).2.1 ≠ (TJ10 b).2.1 := by decide +kernel
theorem tyJ10_ok : ∀ k, k < 0 → parseFieldDescriptor (TJ10 k).2.2.1 = some (tyJ10 k) := by decide +kernel
def RJxa1e45 : String := "java/util/AbstractCollection"
def TJxa1e45 : u_T := fun k => match k with
  | _ => ("", "", "", false)
def tyJxa1e45 : Nat → FieldType := fun k => match k with
  | _ => .int
theorem nmJxa1e45 : ∀ a, a < 0 → ∀ b, b < 0 → a ≠ b → (TJxa1e45 a).2.1 ≠ (TJxa1e45 b).2.1 := by decide +kernel
theorem tyJxa1e45_ok : ∀ k, k < 0 → parseFieldDescriptor (TJxa1e45 k).2.2.1 = some (tyJxa1e45 k) := by decide +kernel
abbrev cJxa1e45_init_da8c8 : ByteArray := prog_23_method_1_code
def yJxa1e45_init_da8c8 : MethodName := ⟨RJxa1e45, "<init>", "()V"⟩
def RJxc12de : String := "java/util/AbstractList"
def TJxc12de : u_T := fun k => match k with
  | _ => ("", "", "", false)
def tyJxc12de : Nat → FieldType := fun k => match k with
  | _ => .int
theorem nmJxc12de : ∀ a, a < 0 → ∀ b, b < 0 → a ≠ b → (TJxc12de a).2.1 ≠ (TJxc12de b).2.1 := by decide +kernel
theorem tyJxc12de_ok : ∀ k, k < 0 → parseFieldDescriptor (TJxc12de k).2.2.1 = some (tyJxc12de k) := by decide +kernel
abbrev cJxc12de_init_da8c8 : ByteArray := prog_24_method_1_code
def yJxc12de_init_da8c8 : MethodName := ⟨RJxc12de, "<init>", "()V"⟩
def RJx4a65c : String := "java/util/ArrayList"
def TJx4a65c : u_T := fun k => match k with
  | 0 => ("java/util/AbstractList", "modCount", "I", false)
  | 1 => ("java/util/ArrayList", "elementData", "[Ljava/lang/Object;", false)
  | _ => ("java/util/ArrayList", "size", "I", false)
def tyJx4a65c : Nat → FieldType := fun k => match k with
  | 0 => .int
  | 1 => .array (.object "java/lang/Object")
  | _ => .int
theorem nmJx4a65c : ∀ a, a < 3 → ∀ b, b < 3 → a ≠ b → (TJx4a65c a).2.1 ≠ (TJx4a65c b).2.1 := by decide +kernel
theorem tyJx4a65c_ok : ∀ k, k < 3 → parseFieldDescriptor (TJx4a65c k).2.2.1 = some (tyJx4a65c k) := by decide +kernel
abbrev cJx4a65c_init_da8c8 : ByteArray := prog_25_method_2_code
def yJx4a65c_init_da8c8 : MethodName := ⟨RJx4a65c, "<init>", "()V"⟩
abbrev cJx4a65c_grow_92f84 : ByteArray := prog_25_method_6_code
def yJx4a65c_grow_92f84 : MethodName := ⟨RJx4a65c, "grow", "(I)[Ljava/lang/Object;"⟩
abbrev cJx4a65c_grow_d5877 : ByteArray := prog_25_method_7_code
def yJx4a65c_grow_d5877 : MethodName := ⟨RJx4a65c, "grow", "()[Ljava/lang/Object;"⟩
abbrev cJx4a65c_size_8abf5 : ByteArray := prog_25_method_8_code
def yJx4a65c_size_8abf5 : MethodName := ⟨RJx4a65c, "size", "()I"⟩
abbrev cJx4a65c_elementData_915e3 : ByteArray := prog_25_method_18_code
def yJx4a65c_elementData_915e3 : MethodName := ⟨RJx4a65c, "elementData", "(I)Ljava/lang/Object;"⟩
abbrev cJx4a65c_get_915e3 : ByteArray := prog_25_method_20_code
def yJx4a65c_get_915e3 : MethodName := ⟨RJx4a65c, "get", "(I)Ljava/lang/Object;"⟩
abbrev cJx4a65c_add_72be8 : ByteArray := prog_25_method_24_code
def yJx4a65c_add_72be8 : MethodName := ⟨RJx4a65c, "add", "(Ljava/lang/Object;[Ljava/lang/Object;I)V"⟩
abbrev cJx4a65c_add_9ea2d : ByteArray := prog_25_method_25_code
def yJx4a65c_add_9ea2d : MethodName := ⟨RJx4a65c, "add", "(Ljava/lang/Object;)Z"⟩
def RJ7 : String := "java/util/Arrays"
def TJ7 : u_T := fun k => match k with
  | _ => ("", "", "", false)
def tyJ7 : Nat → FieldType := fun k => match k with
  | _ => .int
theorem nmJ7 : ∀ a, a < 0 → ∀ b, b < 0 → a ≠ b → (TJ7 a).2.1 ≠ (TJ7 b).2.1 := by decide +kernel
theorem tyJ7_ok : ∀ k, k < 0 → parseFieldDescriptor (TJ7 k).2.2.1 = some (tyJ7 k) := by decide +kernel
abbrev cJ7_fill_53178 : ByteArray := prog_26_method_103_code
def yJ7_fill_53178 : MethodName := ⟨RJ7, "fill", "([II)V"⟩
abbrev cJ7_copyOf_1904c : ByteArray := prog_26_method_119_code
def yJ7_copyOf_1904c : MethodName := ⟨RJ7, "copyOf", "([Ljava/lang/Object;I)[Ljava/lang/Object;"⟩
abbrev cJ7_copyOf_6403c : ByteArray := prog_26_method_120_code
def yJ7_copyOf_6403c : MethodName := ⟨RJ7, "copyOf", "([Ljava/lang/Object;ILjava/lang/Class;)[Ljava/lang/Object;"⟩
def RJx5ef63 : String := "java/util/Collection"
def TJx5ef63 : u_T := fun k => match k with
  | _ => ("", "", "", false)
def tyJx5ef63 : Nat → FieldType := fun k => match k with
  | _ => .int
theorem nmJx5ef63 : ∀ a, a < 0 → ∀ b, b < 0 → a ≠ b → (TJx5ef63 a).2.1 ≠ (TJx5ef63 b).2.1 := by decide +kernel
theorem tyJx5ef63_ok : ∀ k, k < 0 → parseFieldDescriptor (TJx5ef63 k).2.2.1 = some (tyJx5ef63 k) := by decide +kernel
def RJxbd725 : String := "java/util/List"
def TJxbd725 : u_T := fun k => match k with
  | _ => ("", "", "", false)
def tyJxbd725 : Nat → FieldType := fun k => match k with
  | _ => .int
theorem nmJxbd725 : ∀ a, a < 0 → ∀ b, b < 0 → a ≠ b → (TJxbd725 a).2.1 ≠ (TJxbd725 b).2.1 := by decide +kernel
theorem tyJxbd725_ok : ∀ k, k < 0 → parseFieldDescriptor (TJxbd725 k).2.2.1 = some (tyJxbd725 k) := by decide +kernel
def RJ15 : String := "java/util/Objects"
def TJ15 : u_T := fun k => match k with
  | _ => ("", "", "", false)
def tyJ15 : Nat → FieldType := fun k => match k with
  | _ => .int
theorem nmJ15 : ∀ a, a < 0 → ∀ b, b < 0 → a ≠ b → (TJ15 a).2.1 ≠ (TJ15 b).2.1 := by decide +kernel
theorem tyJ15_ok : ∀ k, k < 0 → parseFieldDescriptor (TJ15 k).2.2.1 = some (tyJ15 k) := by decide +kernel
abbrev cJ15_checkIndex_7cf53 : ByteArray := prog_29_method_17_code
def yJ15_checkIndex_7cf53 : MethodName := ⟨RJ15, "checkIndex", "(II)I"⟩
def RJxf0a74 : String := "java/util/RandomAccess"
def TJxf0a74 : u_T := fun k => match k with
  | _ => ("", "", "", false)
def tyJxf0a74 : Nat → FieldType := fun k => match k with
  | _ => .int
theorem nmJxf0a74 : ∀ a, a < 0 → ∀ b, b < 0 → a ≠ b → (TJxf0a74 a).2.1 ≠ (TJxf0a74 b).2.1 := by decide +kernel
theorem tyJxf0a74_ok : ∀ k, k < 0 → parseFieldDescriptor (TJxf0a74 k).2.2.1 = some (tyJxf0a74 k) := by decide +kernel
def RJxa66e6 : String := "java/util/SequencedCollection"
def TJxa66e6 : u_T := fun k => match k with
  | _ => ("", "", "", false)
def tyJxa66e6 : Nat → FieldType := fun k => match k with
  | _ => .int
theorem nmJxa66e6 : ∀ a, a < 0 → ∀ b, b < 0 → a ≠ b → (TJxa66e6 a).2.1 ≠ (TJxa66e6 b).2.1 := by decide +kernel
theorem tyJxa66e6_ok : ∀ k, k < 0 → parseFieldDescriptor (TJxa66e6 k).2.2.1 = some (tyJxa66e6 k) := by decide +kernel
def RJ8 : String := "jdk/internal/util/ArraysSupport"
def TJ8 : u_T := fun k => match k with
  | _ => ("", "", "", false)
def tyJ8 : Nat → FieldType := fun k => match k with
  | _ => .int
theorem nmJ8 : ∀ a, a < 0 → ∀ b, b < 0 → a ≠ b → (TJ8 a).2.1 ≠ (TJ8 b).2.1 := by decide +kernel
theorem tyJ8_ok : ∀ k, k < 0 → parseFieldDescriptor (TJ8 k).2.2.1 = some (tyJ8 k) := by decide +kernel
abbrev cJ8_newLength_cabcc : ByteArray := prog_32_method_27_code
def yJ8_newLength_cabcc : MethodName := ⟨RJ8, "newLength", "(III)I"⟩
abbrev cJ8_hugeLength_7cf53 : ByteArray := prog_32_method_28_code
def yJ8_hugeLength_7cf53 : MethodName := ⟨RJ8, "hugeLength", "(II)I"⟩
def RJ3 : String := "jdk/internal/util/Preconditions"
def TJ3 : u_T := fun k => match k with
  | _ => ("", "", "", false)
def tyJ3 : Nat → FieldType := fun k => match k with
  | _ => .int
theorem nmJ3 : ∀ a, a < 0 → ∀ b, b < 0 → a ≠ b → (TJ3 a).2.1 ≠ (TJ3 b).2.1 := by decide +kernel
theorem tyJ3_ok : ∀ k, k < 0 → parseFieldDescriptor (TJ3 k).2.2.1 = some (tyJ3 k) := by decide +kernel
abbrev cJ3_checkIndex_8e157 : ByteArray := prog_33_method_11_code
def yJ3_checkIndex_8e157 : MethodName := ⟨RJ3, "checkIndex", "(IILjava/util/function/BiFunction;)I"⟩
def RL : String := "RoamBooksLaw"
abbrev cL_cell : ByteArray := method_2_code
def yL_cell : MethodName := ⟨RL, "cell", "([II)I"⟩
abbrev cL_low : ByteArray := method_3_code
def yL_low : MethodName := ⟨RL, "low", "(II)I"⟩
abbrev cL_reach : ByteArray := method_4_code
def yL_reach : MethodName := ⟨RL, "reach", "(LRoamBooks;II)I"⟩
abbrev cL_dead : ByteArray := method_5_code
def yL_dead : MethodName := ⟨RL, "dead", "(LRoamBooks;IZ)I"⟩
abbrev cL_agree : ByteArray := method_6_code
def yL_agree : MethodName := ⟨RL, "agree", "(LRoamBooks;IIIIIII)I"⟩
abbrev cL_steer : ByteArray := method_7_code
def yL_steer : MethodName := ⟨RL, "steer", "(LRoamBooks;II)I"⟩
abbrev cL_prices : ByteArray := method_8_code
def yL_prices : MethodName := ⟨RL, "prices", "(LRoamBooks;IIII)I"⟩
abbrev cL_lose : ByteArray := method_9_code
def yL_lose : MethodName := ⟨RL, "lose", "(LRoamBooks;II)I"⟩
abbrev cL_crash : ByteArray := method_10_code
def yL_crash : MethodName := ⟨RL, "crash", "(LRoamBooks;I)I"⟩
abbrev cL_subscriber : ByteArray := method_11_code
def yL_subscriber : MethodName := ⟨RL, "subscriber", "(LRoamBooks;III)I"⟩
abbrev cL_move : ByteArray := method_12_code
def yL_move : MethodName := ⟨RL, "move", "(LRoamBooks;II)I"⟩
abbrev cL_off : ByteArray := method_13_code
def yL_off : MethodName := ⟨RL, "off", "(LRoamBooks;I)I"⟩
abbrev cL_attach : ByteArray := method_14_code
def yL_attach : MethodName := ⟨RL, "attach", "(LRoamBooks;II)I"⟩
abbrev cL_emergency : ByteArray := method_15_code
def yL_emergency : MethodName := ⟨RL, "emergency", "(LRoamBooks;I)I"⟩
abbrev cL_where : ByteArray := method_16_code
def yL_where : MethodName := ⟨RL, "where", "(LRoamBooks;I)I"⟩
abbrev cL_contact : ByteArray := method_17_code
def yL_contact : MethodName := ⟨RL, "contact", "(LRoamBooks;II)I"⟩
abbrev cL_agrees : ByteArray := method_18_code
def yL_agrees : MethodName := ⟨RL, "agrees", "(LRoamBooks;I)I"⟩
abbrev cL_subscriberIs : ByteArray := method_19_code
def yL_subscriberIs : MethodName := ⟨RL, "subscriberIs", "(LRoamBooks;II)I"⟩
abbrev cL_cap : ByteArray := method_20_code
def yL_cap : MethodName := ⟨RL, "cap", "(LRoamBooks;IIZ)I"⟩
abbrev cL_call : ByteArray := method_21_code
def yL_call : MethodName := ⟨RL, "call", "(LRoamBooks;III)I"⟩
abbrev cL_paidAnew : ByteArray := method_22_code
def yL_paidAnew : MethodName := ⟨RL, "paidAnew", "(LRoamBooks;I)I"⟩
abbrev cL_file : ByteArray := method_23_code
def yL_file : MethodName := ⟨RL, "file", "(LRoamBooks;II)I"⟩
abbrev cL_deliver : ByteArray := method_24_code
def yL_deliver : MethodName := ⟨RL, "deliver", "(LRoamBooks;III)I"⟩
abbrev cL_owes : ByteArray := method_25_code
def yL_owes : MethodName := ⟨RL, "owes", "(LRoamBooks;II)I"⟩
abbrev cL_owesAnew : ByteArray := method_26_code
def yL_owesAnew : MethodName := ⟨RL, "owesAnew", "(LRoamBooks;II)I"⟩
abbrev cL_recorded : ByteArray := method_27_code
def yL_recorded : MethodName := ⟨RL, "recorded", "(LRoamBooks;III)I"⟩
abbrev cL_pass : ByteArray := method_28_code
def yL_pass : MethodName := ⟨RL, "pass", "(LRoamBooks;I)I"⟩
abbrev cL_holds : ByteArray := method_29_code
def yL_holds : MethodName := ⟨RL, "holds", "(II[I[I)I"⟩
abbrev cL_reason : ByteArray := method_30_code
def yL_reason : MethodName := ⟨RL, "reason", "(II[I[I[I)I"⟩
abbrev cL_meets : ByteArray := method_31_code
def yL_meets : MethodName := ⟨RL, "meets", "(I[I[I[I)V"⟩
abbrev cL_paid : ByteArray := method_32_code
def yL_paid : MethodName := ⟨RL, "paid", "(IZ[I[I[I)I"⟩
abbrev cL_minutes : ByteArray := method_33_code
def yL_minutes : MethodName := ⟨RL, "minutes", "(II[I[I[I)I"⟩
abbrev cL_isTold : ByteArray := method_34_code
def yL_isTold : MethodName := ⟨RL, "isTold", "(LRoamBooks;I[I[I[I[I[I[I[I[I)Z"⟩
abbrev cL_law : ByteArray := code
def yL_law : MethodName := ⟨RL, "law", "([I)Z"⟩
abbrev vwCl : List vw_C := [(RJx4a65c, TJx4a65c, 3), (RX0, TX0, 3), (RX1, TX1, 7), (RX2, TX2, 1), (RX3, TX3, 4), (RX4, TX4, 5), (RX5, TX5, 7), (RX6, TX6, 11), (RX7, TX7, 7)]
end
section
theorem dX0_init_0 : decode cX0_init 0 = .ok (.aload_n 0, 1) := by decide +kernel
theorem dX0_init_1 : decode cX0_init 1 = .ok (.invokespecial 3, 3) := by decide +kernel
theorem dX0_init_4 : decode cX0_init 4 = .ok (.aload_n 0, 1) := by decide +kernel
theorem dX0_init_5 : decode cX0_init 5 = .ok (.new 9, 3) := by decide +kernel
theorem dX0_init_8 : decode cX0_init 8 = .ok (.dup, 1) := by decide +kernel
theorem dX0_init_9 : decode cX0_init 9 = .ok (.invokespecial 11, 3) := by decide +kernel
theorem dX0_init_12 : decode cX0_init 12 = .ok (.putfield 12, 3) := by decide +kernel
theorem dX0_init_15 : decode cX0_init 15 = .ok (.return_, 1) := by decide +kernel
theorem dX0_minutesThatAre_0 : decode cX0_minutesThatAre 0 = .ok (.iconst 0, 1) := by decide +kernel
theorem dX0_minutesThatAre_1 : decode cX0_minutesThatAre 1 = .ok (.istore_n 2, 1) := by decide +kernel
theorem dX0_minutesThatAre_2 : decode cX0_minutesThatAre 2 = .ok (.iconst 0, 1) := by decide +kernel
theorem dX0_minutesThatAre_3 : decode cX0_minutesThatAre 3 = .ok (.istore_n 3, 1) := by decide +kernel
theorem dX0_minutesThatAre_4 : decode cX0_minutesThatAre 4 = .ok (.iload_n 3, 1) := by decide +kernel
theorem dX0_minutesThatAre_5 : decode cX0_minutesThatAre 5 = .ok (.aload_n 0, 1) := by decide +kernel
theorem dX0_minutesThatAre_6 : decode cX0_minutesThatAre 6 = .ok (.getfield 12, 3) := by decide +kernel
theorem dX0_minutesThatAre_9 : decode cX0_minutesThatAre 9 = .ok (.invokevirtual 18, 3) := by decide +kernel
theorem dX0_minutesThatAre_12 : decode cX0_minutesThatAre 12 = .ok (.if_icmp .ge 39, 3) := by decide +kernel
theorem dX0_minutesThatAre_15 : decode cX0_minutesThatAre 15 = .ok (.aload_n 0, 1) := by decide +kernel
theorem dX0_minutesThatAre_16 : decode cX0_minutesThatAre 16 = .ok (.getfield 12, 3) := by decide +kernel
theorem dX0_minutesThatAre_19 : decode cX0_minutesThatAre 19 = .ok (.iload_n 3, 1) := by decide +kernel
theorem dX0_minutesThatAre_20 : decode cX0_minutesThatAre 20 = .ok (.invokevirtual 22, 3) := by decide +kernel
theorem dX0_minutesThatAre_23 : decode cX0_minutesThatAre 23 = .ok (.checkcast 26, 3) := by decide +kernel
theorem dX0_minutesThatAre_26 : decode cX0_minutesThatAre 26 = .ok (.astore 4, 2) := by decide +kernel
theorem dX0_minutesThatAre_28 : decode cX0_minutesThatAre 28 = .ok (.aload 4, 2) := by decide +kernel
theorem dX0_minutesThatAre_30 : decode cX0_minutesThatAre 30 = .ok (.getfield 28, 3) := by decide +kernel
theorem dX0_minutesThatAre_33 : decode cX0_minutesThatAre 33 = .ok (.iload_n 1, 1) := by decide +kernel
theorem dX0_minutesThatAre_34 : decode cX0_minutesThatAre 34 = .ok (.if_icmp .ne 11, 3) := by decide +kernel
theorem dX0_minutesThatAre_37 : decode cX0_minutesThatAre 37 = .ok (.iload_n 2, 1) := by decide +kernel
theorem dX0_minutesThatAre_38 : decode cX0_minutesThatAre 38 = .ok (.aload 4, 2) := by decide +kernel
theorem dX0_minutesThatAre_40 : decode cX0_minutesThatAre 40 = .ok (.getfield 32, 3) := by decide +kernel
theorem dX0_minutesThatAre_43 : decode cX0_minutesThatAre 43 = .ok (.iadd, 1) := by decide +kernel
theorem dX0_minutesThatAre_44 : decode cX0_minutesThatAre 44 = .ok (.istore_n 2, 1) := by decide +kernel
theorem dX0_minutesThatAre_45 : decode cX0_minutesThatAre 45 = .ok (.iinc 3 1, 3) := by decide +kernel
theorem dX0_minutesThatAre_48 : decode cX0_minutesThatAre 48 = .ok (.goto (-44), 3) := by decide +kernel
theorem dX0_minutesThatAre_51 : decode cX0_minutesThatAre 51 = .ok (.iload_n 2, 1) := by decide +kernel
theorem dX0_minutesThatAre_52 : decode cX0_minutesThatAre 52 = .ok (.ireturn, 1) := by decide +kernel
theorem dX0_hasUnfiled_0 : decode cX0_hasUnfiled 0 = .ok (.aload_n 0, 1) := by decide +kernel
theorem dX0_hasUnfiled_1 : decode cX0_hasUnfiled 1 = .ok (.iconst 0, 1) := by decide +kernel
theorem dX0_hasUnfiled_2 : decode cX0_hasUnfiled 2 = .ok (.invokevirtual 35, 3) := by decide +kernel
theorem dX0_hasUnfiled_5 : decode cX0_hasUnfiled 5 = .ok (.ifCond .le 7, 3) := by decide +kernel
theorem dX0_hasUnfiled_8 : decode cX0_hasUnfiled 8 = .ok (.iconst 1, 1) := by decide +kernel
theorem dX0_hasUnfiled_9 : decode cX0_hasUnfiled 9 = .ok (.goto 4, 3) := by decide +kernel
theorem dX0_hasUnfiled_12 : decode cX0_hasUnfiled 12 = .ok (.iconst 0, 1) := by decide +kernel
theorem dX0_hasUnfiled_13 : decode cX0_hasUnfiled 13 = .ok (.ireturn, 1) := by decide +kernel
theorem dX0_fileTheRest_0 : decode cX0_fileTheRest 0 = .ok (.aload_n 0, 1) := by decide +kernel
theorem dX0_fileTheRest_1 : decode cX0_fileTheRest 1 = .ok (.getfield 39, 3) := by decide +kernel
theorem dX0_fileTheRest_4 : decode cX0_fileTheRest 4 = .ok (.istore_n 1, 1) := by decide +kernel
theorem dX0_fileTheRest_5 : decode cX0_fileTheRest 5 = .ok (.iconst 0, 1) := by decide +kernel
theorem dX0_fileTheRest_6 : decode cX0_fileTheRest 6 = .ok (.istore_n 2, 1) := by decide +kernel
theorem dX0_fileTheRest_7 : decode cX0_fileTheRest 7 = .ok (.iload_n 2, 1) := by decide +kernel
theorem dX0_fileTheRest_8 : decode cX0_fileTheRest 8 = .ok (.aload_n 0, 1) := by decide +kernel
theorem dX0_fileTheRest_9 : decode cX0_fileTheRest 9 = .ok (.getfield 12, 3) := by decide +kernel
theorem dX0_fileTheRest_12 : decode cX0_fileTheRest 12 = .ok (.invokevirtual 18, 3) := by decide +kernel
theorem dX0_fileTheRest_15 : decode cX0_fileTheRest 15 = .ok (.if_icmp .ge 38, 3) := by decide +kernel
theorem dX0_fileTheRest_18 : decode cX0_fileTheRest 18 = .ok (.aload_n 0, 1) := by decide +kernel
theorem dX0_fileTheRest_19 : decode cX0_fileTheRest 19 = .ok (.getfield 12, 3) := by decide +kernel
theorem dX0_fileTheRest_22 : decode cX0_fileTheRest 22 = .ok (.iload_n 2, 1) := by decide +kernel
theorem dX0_fileTheRest_23 : decode cX0_fileTheRest 23 = .ok (.invokevirtual 22, 3) := by decide +kernel
theorem dX0_fileTheRest_26 : decode cX0_fileTheRest 26 = .ok (.checkcast 26, 3) := by decide +kernel
theorem dX0_fileTheRest_29 : decode cX0_fileTheRest 29 = .ok (.astore_n 3, 1) := by decide +kernel
theorem dX0_fileTheRest_30 : decode cX0_fileTheRest 30 = .ok (.aload_n 3, 1) := by decide +kernel
theorem dX0_fileTheRest_31 : decode cX0_fileTheRest 31 = .ok (.getfield 28, 3) := by decide +kernel
theorem dX0_fileTheRest_34 : decode cX0_fileTheRest 34 = .ok (.ifCond .ne 13, 3) := by decide +kernel
theorem dX0_fileTheRest_37 : decode cX0_fileTheRest 37 = .ok (.aload_n 3, 1) := by decide +kernel
theorem dX0_fileTheRest_38 : decode cX0_fileTheRest 38 = .ok (.iconst 1, 1) := by decide +kernel
theorem dX0_fileTheRest_39 : decode cX0_fileTheRest 39 = .ok (.putfield 28, 3) := by decide +kernel
theorem dX0_fileTheRest_42 : decode cX0_fileTheRest 42 = .ok (.aload_n 3, 1) := by decide +kernel
theorem dX0_fileTheRest_43 : decode cX0_fileTheRest 43 = .ok (.iload_n 1, 1) := by decide +kernel
theorem dX0_fileTheRest_44 : decode cX0_fileTheRest 44 = .ok (.putfield 42, 3) := by decide +kernel
theorem dX0_fileTheRest_47 : decode cX0_fileTheRest 47 = .ok (.iinc 2 1, 3) := by decide +kernel
theorem dX0_fileTheRest_50 : decode cX0_fileTheRest 50 = .ok (.goto (-43), 3) := by decide +kernel
theorem dX0_fileTheRest_53 : decode cX0_fileTheRest 53 = .ok (.aload_n 0, 1) := by decide +kernel
theorem dX0_fileTheRest_54 : decode cX0_fileTheRest 54 = .ok (.dup, 1) := by decide +kernel
theorem dX0_fileTheRest_55 : decode cX0_fileTheRest 55 = .ok (.getfield 39, 3) := by decide +kernel
theorem dX0_fileTheRest_58 : decode cX0_fileTheRest 58 = .ok (.iconst 1, 1) := by decide +kernel
theorem dX0_fileTheRest_59 : decode cX0_fileTheRest 59 = .ok (.iadd, 1) := by decide +kernel
theorem dX0_fileTheRest_60 : decode cX0_fileTheRest 60 = .ok (.putfield 39, 3) := by decide +kernel
theorem dX0_fileTheRest_63 : decode cX0_fileTheRest 63 = .ok (.iload_n 1, 1) := by decide +kernel
theorem dX0_fileTheRest_64 : decode cX0_fileTheRest 64 = .ok (.ireturn, 1) := by decide +kernel
theorem dX0_takeNextFile_0 : decode cX0_takeNextFile 0 = .ok (.iconst 0, 1) := by decide +kernel
theorem dX0_takeNextFile_1 : decode cX0_takeNextFile 1 = .ok (.istore_n 2, 1) := by decide +kernel
theorem dX0_takeNextFile_2 : decode cX0_takeNextFile 2 = .ok (.iconst 0, 1) := by decide +kernel
theorem dX0_takeNextFile_3 : decode cX0_takeNextFile 3 = .ok (.istore_n 3, 1) := by decide +kernel
theorem dX0_takeNextFile_4 : decode cX0_takeNextFile 4 = .ok (.iload_n 3, 1) := by decide +kernel
theorem dX0_takeNextFile_5 : decode cX0_takeNextFile 5 = .ok (.aload_n 0, 1) := by decide +kernel
theorem dX0_takeNextFile_6 : decode cX0_takeNextFile 6 = .ok (.getfield 12, 3) := by decide +kernel
theorem dX0_takeNextFile_9 : decode cX0_takeNextFile 9 = .ok (.invokevirtual 18, 3) := by decide +kernel
theorem dX0_takeNextFile_12 : decode cX0_takeNextFile 12 = .ok (.if_icmp .ge 67, 3) := by decide +kernel
theorem dX0_takeNextFile_15 : decode cX0_takeNextFile 15 = .ok (.aload_n 0, 1) := by decide +kernel
theorem dX0_takeNextFile_16 : decode cX0_takeNextFile 16 = .ok (.getfield 12, 3) := by decide +kernel
theorem dX0_takeNextFile_19 : decode cX0_takeNextFile 19 = .ok (.iload_n 3, 1) := by decide +kernel
theorem dX0_takeNextFile_20 : decode cX0_takeNextFile 20 = .ok (.invokevirtual 22, 3) := by decide +kernel
theorem dX0_takeNextFile_23 : decode cX0_takeNextFile 23 = .ok (.checkcast 26, 3) := by decide +kernel
theorem dX0_takeNextFile_26 : decode cX0_takeNextFile 26 = .ok (.astore 4, 2) := by decide +kernel
theorem dX0_takeNextFile_28 : decode cX0_takeNextFile 28 = .ok (.aload 4, 2) := by decide +kernel
theorem dX0_takeNextFile_30 : decode cX0_takeNextFile 30 = .ok (.getfield 42, 3) := by decide +kernel
theorem dX0_takeNextFile_33 : decode cX0_takeNextFile 33 = .ok (.aload_n 0, 1) := by decide +kernel
theorem dX0_takeNextFile_34 : decode cX0_takeNextFile 34 = .ok (.getfield 45, 3) := by decide +kernel
theorem dX0_takeNextFile_37 : decode cX0_takeNextFile 37 = .ok (.if_icmp .eq 6, 3) := by decide +kernel
theorem dX0_takeNextFile_40 : decode cX0_takeNextFile 40 = .ok (.goto 33, 3) := by decide +kernel
theorem dX0_takeNextFile_43 : decode cX0_takeNextFile 43 = .ok (.iload_n 1, 1) := by decide +kernel
theorem dX0_takeNextFile_44 : decode cX0_takeNextFile 44 = .ok (.aload 4, 2) := by decide +kernel
theorem dX0_takeNextFile_46 : decode cX0_takeNextFile 46 = .ok (.getfield 48, 3) := by decide +kernel
theorem dX0_takeNextFile_49 : decode cX0_takeNextFile 49 = .ok (.isub, 1) := by decide +kernel
theorem dX0_takeNextFile_50 : decode cX0_takeNextFile 50 = .ok (.ldc 51, 2) := by decide +kernel
theorem dX0_takeNextFile_52 : decode cX0_takeNextFile 52 = .ok (.if_icmp .lt 15, 3) := by decide +kernel
theorem dX0_takeNextFile_55 : decode cX0_takeNextFile 55 = .ok (.aload 4, 2) := by decide +kernel
theorem dX0_takeNextFile_57 : decode cX0_takeNextFile 57 = .ok (.iconst 3, 1) := by decide +kernel
theorem dX0_takeNextFile_58 : decode cX0_takeNextFile 58 = .ok (.putfield 28, 3) := by decide +kernel
theorem dX0_takeNextFile_61 : decode cX0_takeNextFile 61 = .ok (.iinc 2 1, 3) := by decide +kernel
theorem dX0_takeNextFile_64 : decode cX0_takeNextFile 64 = .ok (.goto 9, 3) := by decide +kernel
theorem dX0_takeNextFile_67 : decode cX0_takeNextFile 67 = .ok (.aload 4, 2) := by decide +kernel
theorem dX0_takeNextFile_69 : decode cX0_takeNextFile 69 = .ok (.iconst 2, 1) := by decide +kernel
theorem dX0_takeNextFile_70 : decode cX0_takeNextFile 70 = .ok (.putfield 28, 3) := by decide +kernel
theorem dX0_takeNextFile_73 : decode cX0_takeNextFile 73 = .ok (.iinc 3 1, 3) := by decide +kernel
theorem dX0_takeNextFile_76 : decode cX0_takeNextFile 76 = .ok (.goto (-72), 3) := by decide +kernel
theorem dX0_takeNextFile_79 : decode cX0_takeNextFile 79 = .ok (.aload_n 0, 1) := by decide +kernel
theorem dX0_takeNextFile_80 : decode cX0_takeNextFile 80 = .ok (.dup, 1) := by decide +kernel
theorem dX0_takeNextFile_81 : decode cX0_takeNextFile 81 = .ok (.getfield 45, 3) := by decide +kernel
theorem dX0_takeNextFile_84 : decode cX0_takeNextFile 84 = .ok (.iconst 1, 1) := by decide +kernel
theorem dX0_takeNextFile_85 : decode cX0_takeNextFile 85 = .ok (.iadd, 1) := by decide +kernel
theorem dX0_takeNextFile_86 : decode cX0_takeNextFile 86 = .ok (.putfield 45, 3) := by decide +kernel
theorem dX0_takeNextFile_89 : decode cX0_takeNextFile 89 = .ok (.iload_n 2, 1) := by decide +kernel
theorem dX0_takeNextFile_90 : decode cX0_takeNextFile 90 = .ok (.ireturn, 1) := by decide +kernel
theorem dX0_owed_0 : decode cX0_owed 0 = .ok (.aload_n 0, 1) := by decide +kernel
theorem dX0_owed_1 : decode cX0_owed 1 = .ok (.iconst 2, 1) := by decide +kernel
theorem dX0_owed_2 : decode cX0_owed 2 = .ok (.invokevirtual 35, 3) := by decide +kernel
theorem dX0_owed_5 : decode cX0_owed 5 = .ok (.istore_n 1, 1) := by decide +kernel
theorem dX0_owed_6 : decode cX0_owed 6 = .ok (.iconst 0, 1) := by decide +kernel
theorem dX0_owed_7 : decode cX0_owed 7 = .ok (.istore_n 2, 1) := by decide +kernel
theorem dX0_owed_8 : decode cX0_owed 8 = .ok (.iconst 0, 1) := by decide +kernel
theorem dX0_owed_9 : decode cX0_owed 9 = .ok (.istore_n 3, 1) := by decide +kernel
theorem dX0_owed_10 : decode cX0_owed 10 = .ok (.iload_n 3, 1) := by decide +kernel
theorem dX0_owed_11 : decode cX0_owed 11 = .ok (.aload_n 0, 1) := by decide +kernel
theorem dX0_owed_12 : decode cX0_owed 12 = .ok (.getfield 12, 3) := by decide +kernel
theorem dX0_owed_15 : decode cX0_owed 15 = .ok (.invokevirtual 18, 3) := by decide +kernel
theorem dX0_owed_18 : decode cX0_owed 18 = .ok (.if_icmp .ge 27, 3) := by decide +kernel
theorem dX0_owed_21 : decode cX0_owed 21 = .ok (.iload_n 2, 1) := by decide +kernel
theorem dX0_owed_22 : decode cX0_owed 22 = .ok (.aload_n 0, 1) := by decide +kernel
theorem dX0_owed_23 : decode cX0_owed 23 = .ok (.getfield 12, 3) := by decide +kernel
theorem dX0_owed_26 : decode cX0_owed 26 = .ok (.iload_n 3, 1) := by decide +kernel
theorem dX0_owed_27 : decode cX0_owed 27 = .ok (.invokevirtual 22, 3) := by decide +kernel
theorem dX0_owed_30 : decode cX0_owed 30 = .ok (.checkcast 26, 3) := by decide +kernel
theorem dX0_owed_33 : decode cX0_owed 33 = .ok (.iload_n 1, 1) := by decide +kernel
theorem dX0_owed_34 : decode cX0_owed 34 = .ok (.invokevirtual 52, 3) := by decide +kernel
theorem dX0_owed_37 : decode cX0_owed 37 = .ok (.iadd, 1) := by decide +kernel
theorem dX0_owed_38 : decode cX0_owed 38 = .ok (.istore_n 2, 1) := by decide +kernel
theorem dX0_owed_39 : decode cX0_owed 39 = .ok (.iinc 3 1, 3) := by decide +kernel
theorem dX0_owed_42 : decode cX0_owed 42 = .ok (.goto (-32), 3) := by decide +kernel
theorem dX0_owed_45 : decode cX0_owed 45 = .ok (.iload_n 2, 1) := by decide +kernel
theorem dX0_owed_46 : decode cX0_owed 46 = .ok (.ireturn, 1) := by decide +kernel
theorem dX0_owedFileByFile_0 : decode cX0_owedFileByFile 0 = .ok (.iconst 0, 1) := by decide +kernel
theorem dX0_owedFileByFile_1 : decode cX0_owedFileByFile 1 = .ok (.istore_n 1, 1) := by decide +kernel
theorem dX0_owedFileByFile_2 : decode cX0_owedFileByFile 2 = .ok (.iconst 0, 1) := by decide +kernel
theorem dX0_owedFileByFile_3 : decode cX0_owedFileByFile 3 = .ok (.istore_n 2, 1) := by decide +kernel
theorem dX0_owedFileByFile_4 : decode cX0_owedFileByFile 4 = .ok (.iload_n 2, 1) := by decide +kernel
theorem dX0_owedFileByFile_5 : decode cX0_owedFileByFile 5 = .ok (.aload_n 0, 1) := by decide +kernel
theorem dX0_owedFileByFile_6 : decode cX0_owedFileByFile 6 = .ok (.getfield 45, 3) := by decide +kernel
theorem dX0_owedFileByFile_9 : decode cX0_owedFileByFile 9 = .ok (.if_icmp .ge 17, 3) := by decide +kernel
theorem dX0_owedFileByFile_12 : decode cX0_owedFileByFile 12 = .ok (.iload_n 1, 1) := by decide +kernel
theorem dX0_owedFileByFile_13 : decode cX0_owedFileByFile 13 = .ok (.aload_n 0, 1) := by decide +kernel
theorem dX0_owedFileByFile_14 : decode cX0_owedFileByFile 14 = .ok (.iload_n 2, 1) := by decide +kernel
theorem dX0_owedFileByFile_15 : decode cX0_owedFileByFile 15 = .ok (.invokevirtual 55, 3) := by decide +kernel
theorem dX0_owedFileByFile_18 : decode cX0_owedFileByFile 18 = .ok (.iadd, 1) := by decide +kernel
theorem dX0_owedFileByFile_19 : decode cX0_owedFileByFile 19 = .ok (.istore_n 1, 1) := by decide +kernel
theorem dX0_owedFileByFile_20 : decode cX0_owedFileByFile 20 = .ok (.iinc 2 1, 3) := by decide +kernel
theorem dX0_owedFileByFile_23 : decode cX0_owedFileByFile 23 = .ok (.goto (-19), 3) := by decide +kernel
theorem dX0_owedFileByFile_26 : decode cX0_owedFileByFile 26 = .ok (.iconst 0, 1) := by decide +kernel
theorem dX0_owedFileByFile_27 : decode cX0_owedFileByFile 27 = .ok (.istore_n 2, 1) := by decide +kernel
theorem dX0_owedFileByFile_28 : decode cX0_owedFileByFile 28 = .ok (.iconst 0, 1) := by decide +kernel
theorem dX0_owedFileByFile_29 : decode cX0_owedFileByFile 29 = .ok (.istore_n 3, 1) := by decide +kernel
theorem dX0_owedFileByFile_30 : decode cX0_owedFileByFile 30 = .ok (.iload_n 3, 1) := by decide +kernel
theorem dX0_owedFileByFile_31 : decode cX0_owedFileByFile 31 = .ok (.aload_n 0, 1) := by decide +kernel
theorem dX0_owedFileByFile_32 : decode cX0_owedFileByFile 32 = .ok (.getfield 45, 3) := by decide +kernel
theorem dX0_owedFileByFile_35 : decode cX0_owedFileByFile 35 = .ok (.if_icmp .ge 18, 3) := by decide +kernel
theorem dX0_owedFileByFile_38 : decode cX0_owedFileByFile 38 = .ok (.iload_n 2, 1) := by decide +kernel
theorem dX0_owedFileByFile_39 : decode cX0_owedFileByFile 39 = .ok (.aload_n 0, 1) := by decide +kernel
theorem dX0_owedFileByFile_40 : decode cX0_owedFileByFile 40 = .ok (.iload_n 3, 1) := by decide +kernel
theorem dX0_owedFileByFile_41 : decode cX0_owedFileByFile 41 = .ok (.iload_n 1, 1) := by decide +kernel
theorem dX0_owedFileByFile_42 : decode cX0_owedFileByFile 42 = .ok (.invokevirtual 58, 3) := by decide +kernel
theorem dX0_owedFileByFile_45 : decode cX0_owedFileByFile 45 = .ok (.iadd, 1) := by decide +kernel
theorem dX0_owedFileByFile_46 : decode cX0_owedFileByFile 46 = .ok (.istore_n 2, 1) := by decide +kernel
theorem dX0_owedFileByFile_47 : decode cX0_owedFileByFile 47 = .ok (.iinc 3 1, 3) := by decide +kernel
theorem dX0_owedFileByFile_50 : decode cX0_owedFileByFile 50 = .ok (.goto (-20), 3) := by decide +kernel
theorem dX0_owedFileByFile_53 : decode cX0_owedFileByFile 53 = .ok (.iload_n 2, 1) := by decide +kernel
theorem dX0_owedFileByFile_54 : decode cX0_owedFileByFile 54 = .ok (.ireturn, 1) := by decide +kernel
theorem dX0_minutesTakenIn_0 : decode cX0_minutesTakenIn 0 = .ok (.iconst 0, 1) := by decide +kernel
theorem dX0_minutesTakenIn_1 : decode cX0_minutesTakenIn 1 = .ok (.istore_n 2, 1) := by decide +kernel
theorem dX0_minutesTakenIn_2 : decode cX0_minutesTakenIn 2 = .ok (.iconst 0, 1) := by decide +kernel
theorem dX0_minutesTakenIn_3 : decode cX0_minutesTakenIn 3 = .ok (.istore_n 3, 1) := by decide +kernel
theorem dX0_minutesTakenIn_4 : decode cX0_minutesTakenIn 4 = .ok (.iload_n 3, 1) := by decide +kernel
theorem dX0_minutesTakenIn_5 : decode cX0_minutesTakenIn 5 = .ok (.aload_n 0, 1) := by decide +kernel
theorem dX0_minutesTakenIn_6 : decode cX0_minutesTakenIn 6 = .ok (.getfield 12, 3) := by decide +kernel
theorem dX0_minutesTakenIn_9 : decode cX0_minutesTakenIn 9 = .ok (.invokevirtual 18, 3) := by decide +kernel
theorem dX0_minutesTakenIn_12 : decode cX0_minutesTakenIn 12 = .ok (.if_icmp .ge 48, 3) := by decide +kernel
theorem dX0_minutesTakenIn_15 : decode cX0_minutesTakenIn 15 = .ok (.aload_n 0, 1) := by decide +kernel
theorem dX0_minutesTakenIn_16 : decode cX0_minutesTakenIn 16 = .ok (.getfield 12, 3) := by decide +kernel
theorem dX0_minutesTakenIn_19 : decode cX0_minutesTakenIn 19 = .ok (.iload_n 3, 1) := by decide +kernel
theorem dX0_minutesTakenIn_20 : decode cX0_minutesTakenIn 20 = .ok (.invokevirtual 22, 3) := by decide +kernel
theorem dX0_minutesTakenIn_23 : decode cX0_minutesTakenIn 23 = .ok (.checkcast 26, 3) := by decide +kernel
theorem dX0_minutesTakenIn_26 : decode cX0_minutesTakenIn 26 = .ok (.astore 4, 2) := by decide +kernel
theorem dX0_minutesTakenIn_28 : decode cX0_minutesTakenIn 28 = .ok (.aload 4, 2) := by decide +kernel
theorem dX0_minutesTakenIn_30 : decode cX0_minutesTakenIn 30 = .ok (.getfield 42, 3) := by decide +kernel
theorem dX0_minutesTakenIn_33 : decode cX0_minutesTakenIn 33 = .ok (.iload_n 1, 1) := by decide +kernel
theorem dX0_minutesTakenIn_34 : decode cX0_minutesTakenIn 34 = .ok (.if_icmp .ne 20, 3) := by decide +kernel
theorem dX0_minutesTakenIn_37 : decode cX0_minutesTakenIn 37 = .ok (.aload 4, 2) := by decide +kernel
theorem dX0_minutesTakenIn_39 : decode cX0_minutesTakenIn 39 = .ok (.getfield 28, 3) := by decide +kernel
theorem dX0_minutesTakenIn_42 : decode cX0_minutesTakenIn 42 = .ok (.iconst 2, 1) := by decide +kernel
theorem dX0_minutesTakenIn_43 : decode cX0_minutesTakenIn 43 = .ok (.if_icmp .ne 11, 3) := by decide +kernel
theorem dX0_minutesTakenIn_46 : decode cX0_minutesTakenIn 46 = .ok (.iload_n 2, 1) := by decide +kernel
theorem dX0_minutesTakenIn_47 : decode cX0_minutesTakenIn 47 = .ok (.aload 4, 2) := by decide +kernel
theorem dX0_minutesTakenIn_49 : decode cX0_minutesTakenIn 49 = .ok (.getfield 32, 3) := by decide +kernel
theorem dX0_minutesTakenIn_52 : decode cX0_minutesTakenIn 52 = .ok (.iadd, 1) := by decide +kernel
theorem dX0_minutesTakenIn_53 : decode cX0_minutesTakenIn 53 = .ok (.istore_n 2, 1) := by decide +kernel
theorem dX0_minutesTakenIn_54 : decode cX0_minutesTakenIn 54 = .ok (.iinc 3 1, 3) := by decide +kernel
theorem dX0_minutesTakenIn_57 : decode cX0_minutesTakenIn 57 = .ok (.goto (-53), 3) := by decide +kernel
theorem dX0_minutesTakenIn_60 : decode cX0_minutesTakenIn 60 = .ok (.iload_n 2, 1) := by decide +kernel
theorem dX0_minutesTakenIn_61 : decode cX0_minutesTakenIn 61 = .ok (.ireturn, 1) := by decide +kernel
theorem dX0_owedIn_0 : decode cX0_owedIn 0 = .ok (.iconst 0, 1) := by decide +kernel
theorem dX0_owedIn_1 : decode cX0_owedIn 1 = .ok (.istore_n 3, 1) := by decide +kernel
theorem dX0_owedIn_2 : decode cX0_owedIn 2 = .ok (.iconst 0, 1) := by decide +kernel
theorem dX0_owedIn_3 : decode cX0_owedIn 3 = .ok (.istore 4, 2) := by decide +kernel
theorem dX0_owedIn_5 : decode cX0_owedIn 5 = .ok (.iload 4, 2) := by decide +kernel
theorem dX0_owedIn_7 : decode cX0_owedIn 7 = .ok (.aload_n 0, 1) := by decide +kernel
theorem dX0_owedIn_8 : decode cX0_owedIn 8 = .ok (.getfield 12, 3) := by decide +kernel
theorem dX0_owedIn_11 : decode cX0_owedIn 11 = .ok (.invokevirtual 18, 3) := by decide +kernel
theorem dX0_owedIn_14 : decode cX0_owedIn 14 = .ok (.if_icmp .ge 41, 3) := by decide +kernel
theorem dX0_owedIn_17 : decode cX0_owedIn 17 = .ok (.aload_n 0, 1) := by decide +kernel
theorem dX0_owedIn_18 : decode cX0_owedIn 18 = .ok (.getfield 12, 3) := by decide +kernel
theorem dX0_owedIn_21 : decode cX0_owedIn 21 = .ok (.iload 4, 2) := by decide +kernel
theorem dX0_owedIn_23 : decode cX0_owedIn 23 = .ok (.invokevirtual 22, 3) := by decide +kernel
theorem dX0_owedIn_26 : decode cX0_owedIn 26 = .ok (.checkcast 26, 3) := by decide +kernel
theorem dX0_owedIn_29 : decode cX0_owedIn 29 = .ok (.astore 5, 2) := by decide +kernel
theorem dX0_owedIn_31 : decode cX0_owedIn 31 = .ok (.aload 5, 2) := by decide +kernel
theorem dX0_owedIn_33 : decode cX0_owedIn 33 = .ok (.getfield 42, 3) := by decide +kernel
theorem dX0_owedIn_36 : decode cX0_owedIn 36 = .ok (.iload_n 1, 1) := by decide +kernel
theorem dX0_owedIn_37 : decode cX0_owedIn 37 = .ok (.if_icmp .ne 12, 3) := by decide +kernel
theorem dX0_owedIn_40 : decode cX0_owedIn 40 = .ok (.iload_n 3, 1) := by decide +kernel
theorem dX0_owedIn_41 : decode cX0_owedIn 41 = .ok (.aload 5, 2) := by decide +kernel
theorem dX0_owedIn_43 : decode cX0_owedIn 43 = .ok (.iload_n 2, 1) := by decide +kernel
theorem dX0_owedIn_44 : decode cX0_owedIn 44 = .ok (.invokevirtual 52, 3) := by decide +kernel
theorem dX0_owedIn_47 : decode cX0_owedIn 47 = .ok (.iadd, 1) := by decide +kernel
theorem dX0_owedIn_48 : decode cX0_owedIn 48 = .ok (.istore_n 3, 1) := by decide +kernel
theorem dX0_owedIn_49 : decode cX0_owedIn 49 = .ok (.iinc 4 1, 3) := by decide +kernel
theorem dX0_owedIn_52 : decode cX0_owedIn 52 = .ok (.goto (-47), 3) := by decide +kernel
theorem dX0_owedIn_55 : decode cX0_owedIn 55 = .ok (.iload_n 3, 1) := by decide +kernel
theorem dX0_owedIn_56 : decode cX0_owedIn 56 = .ok (.ireturn, 1) := by decide +kernel
theorem dX1_init_0 : decode cX1_init 0 = .ok (.aload_n 0, 1) := by decide +kernel
theorem dX1_init_1 : decode cX1_init 1 = .ok (.invokespecial 1, 3) := by decide +kernel
theorem dX1_init_4 : decode cX1_init 4 = .ok (.aload_n 0, 1) := by decide +kernel
theorem dX1_init_5 : decode cX1_init 5 = .ok (.iload_n 1, 1) := by decide +kernel
theorem dX1_init_6 : decode cX1_init 6 = .ok (.putfield 7, 3) := by decide +kernel
theorem dX1_init_9 : decode cX1_init 9 = .ok (.aload_n 0, 1) := by decide +kernel
theorem dX1_init_10 : decode cX1_init 10 = .ok (.iload_n 2, 1) := by decide +kernel
theorem dX1_init_11 : decode cX1_init 11 = .ok (.putfield 13, 3) := by decide +kernel
theorem dX1_init_14 : decode cX1_init 14 = .ok (.aload_n 0, 1) := by decide +kernel
theorem dX1_init_15 : decode cX1_init 15 = .ok (.iload_n 3, 1) := by decide +kernel
theorem dX1_init_16 : decode cX1_init 16 = .ok (.putfield 16, 3) := by decide +kernel
theorem dX1_init_19 : decode cX1_init 19 = .ok (.aload_n 0, 1) := by decide +kernel
theorem dX1_init_20 : decode cX1_init 20 = .ok (.iload 4, 2) := by decide +kernel
theorem dX1_init_22 : decode cX1_init 22 = .ok (.putfield 19, 3) := by decide +kernel
theorem dX1_init_25 : decode cX1_init 25 = .ok (.aload_n 0, 1) := by decide +kernel
theorem dX1_init_26 : decode cX1_init 26 = .ok (.iload 5, 2) := by decide +kernel
theorem dX1_init_28 : decode cX1_init 28 = .ok (.putfield 22, 3) := by decide +kernel
theorem dX1_init_31 : decode cX1_init 31 = .ok (.aload_n 0, 1) := by decide +kernel
theorem dX1_init_32 : decode cX1_init 32 = .ok (.iload 6, 2) := by decide +kernel
theorem dX1_init_34 : decode cX1_init 34 = .ok (.putfield 25, 3) := by decide +kernel
theorem dX1_init_37 : decode cX1_init 37 = .ok (.aload_n 0, 1) := by decide +kernel
theorem dX1_init_38 : decode cX1_init 38 = .ok (.iload 7, 2) := by decide +kernel
theorem dX1_init_40 : decode cX1_init 40 = .ok (.putfield 28, 3) := by decide +kernel
theorem dX1_init_43 : decode cX1_init 43 = .ok (.return_, 1) := by decide +kernel
theorem dX1_holds_0 : decode cX1_holds 0 = .ok (.aload_n 0, 1) := by decide +kernel
theorem dX1_holds_1 : decode cX1_holds 1 = .ok (.getfield 7, 3) := by decide +kernel
theorem dX1_holds_4 : decode cX1_holds 4 = .ok (.iload_n 1, 1) := by decide +kernel
theorem dX1_holds_5 : decode cX1_holds 5 = .ok (.if_icmp .ne 31, 3) := by decide +kernel
theorem dX1_holds_8 : decode cX1_holds 8 = .ok (.aload_n 0, 1) := by decide +kernel
theorem dX1_holds_9 : decode cX1_holds 9 = .ok (.getfield 13, 3) := by decide +kernel
theorem dX1_holds_12 : decode cX1_holds 12 = .ok (.iload_n 2, 1) := by decide +kernel
theorem dX1_holds_13 : decode cX1_holds 13 = .ok (.if_icmp .ne 23, 3) := by decide +kernel
theorem dX1_holds_16 : decode cX1_holds 16 = .ok (.aload_n 0, 1) := by decide +kernel
theorem dX1_holds_17 : decode cX1_holds 17 = .ok (.getfield 16, 3) := by decide +kernel
theorem dX1_holds_20 : decode cX1_holds 20 = .ok (.iload_n 3, 1) := by decide +kernel
theorem dX1_holds_21 : decode cX1_holds 21 = .ok (.if_icmp .gt 15, 3) := by decide +kernel
theorem dX1_holds_24 : decode cX1_holds 24 = .ok (.iload_n 3, 1) := by decide +kernel
theorem dX1_holds_25 : decode cX1_holds 25 = .ok (.aload_n 0, 1) := by decide +kernel
theorem dX1_holds_26 : decode cX1_holds 26 = .ok (.getfield 19, 3) := by decide +kernel
theorem dX1_holds_29 : decode cX1_holds 29 = .ok (.if_icmp .ge 7, 3) := by decide +kernel
theorem dX1_holds_32 : decode cX1_holds 32 = .ok (.iconst 1, 1) := by decide +kernel
theorem dX1_holds_33 : decode cX1_holds 33 = .ok (.goto 4, 3) := by decide +kernel
theorem dX1_holds_36 : decode cX1_holds 36 = .ok (.iconst 0, 1) := by decide +kernel
theorem dX1_holds_37 : decode cX1_holds 37 = .ok (.ireturn, 1) := by decide +kernel
theorem dX1_priceAt_0 : decode cX1_priceAt 0 = .ok (.aload_n 0, 1) := by decide +kernel
theorem dX1_priceAt_1 : decode cX1_priceAt 1 = .ok (.getfield 25, 3) := by decide +kernel
theorem dX1_priceAt_4 : decode cX1_priceAt 4 = .ok (.ifCond .le 18, 3) := by decide +kernel
theorem dX1_priceAt_7 : decode cX1_priceAt 7 = .ok (.iload_n 1, 1) := by decide +kernel
theorem dX1_priceAt_8 : decode cX1_priceAt 8 = .ok (.aload_n 0, 1) := by decide +kernel
theorem dX1_priceAt_9 : decode cX1_priceAt 9 = .ok (.getfield 25, 3) := by decide +kernel
theorem dX1_priceAt_12 : decode cX1_priceAt 12 = .ok (.if_icmp .lt 10, 3) := by decide +kernel
theorem dX1_priceAt_15 : decode cX1_priceAt 15 = .ok (.aload_n 0, 1) := by decide +kernel
theorem dX1_priceAt_16 : decode cX1_priceAt 16 = .ok (.getfield 28, 3) := by decide +kernel
theorem dX1_priceAt_19 : decode cX1_priceAt 19 = .ok (.goto 7, 3) := by decide +kernel
theorem dX1_priceAt_22 : decode cX1_priceAt 22 = .ok (.aload_n 0, 1) := by decide +kernel
theorem dX1_priceAt_23 : decode cX1_priceAt 23 = .ok (.getfield 22, 3) := by decide +kernel
theorem dX1_priceAt_26 : decode cX1_priceAt 26 = .ok (.ireturn, 1) := by decide +kernel
theorem dX2_init_0 : decode cX2_init 0 = .ok (.aload_n 0, 1) := by decide +kernel
theorem dX2_init_1 : decode cX2_init 1 = .ok (.invokespecial 3, 3) := by decide +kernel
theorem dX2_init_4 : decode cX2_init 4 = .ok (.aload_n 0, 1) := by decide +kernel
theorem dX2_init_5 : decode cX2_init 5 = .ok (.bipush 10, 2) := by decide +kernel
theorem dX2_init_7 : decode cX2_init 7 = .ok (.newarray .int, 2) := by decide +kernel
theorem dX2_init_9 : decode cX2_init 9 = .ok (.putfield 9, 3) := by decide +kernel
theorem dX2_init_12 : decode cX2_init 12 = .ok (.aload_n 0, 1) := by decide +kernel
theorem dX2_init_13 : decode cX2_init 13 = .ok (.getfield 9, 3) := by decide +kernel
theorem dX2_init_16 : decode cX2_init 16 = .ok (.iconst (-1), 1) := by decide +kernel
theorem dX2_init_17 : decode cX2_init 17 = .ok (.invokestatic 15, 3) := by decide +kernel
theorem dX2_init_20 : decode cX2_init 20 = .ok (.return_, 1) := by decide +kernel
theorem dX2_latest_0 : decode cX2_latest 0 = .ok (.aload_n 0, 1) := by decide +kernel
theorem dX2_latest_1 : decode cX2_latest 1 = .ok (.iload_n 1, 1) := by decide +kernel
theorem dX2_latest_2 : decode cX2_latest 2 = .ok (.invokevirtual 21, 3) := by decide +kernel
theorem dX2_latest_5 : decode cX2_latest 5 = .ok (.ifCond .eq 12, 3) := by decide +kernel
theorem dX2_latest_8 : decode cX2_latest 8 = .ok (.aload_n 0, 1) := by decide +kernel
theorem dX2_latest_9 : decode cX2_latest 9 = .ok (.getfield 9, 3) := by decide +kernel
theorem dX2_latest_12 : decode cX2_latest 12 = .ok (.iload_n 1, 1) := by decide +kernel
theorem dX2_latest_13 : decode cX2_latest 13 = .ok (.iaload, 1) := by decide +kernel
theorem dX2_latest_14 : decode cX2_latest 14 = .ok (.goto 4, 3) := by decide +kernel
theorem dX2_latest_17 : decode cX2_latest 17 = .ok (.iconst (-1), 1) := by decide +kernel
theorem dX2_latest_18 : decode cX2_latest 18 = .ok (.ireturn, 1) := by decide +kernel
theorem dX2_has_0 : decode cX2_has 0 = .ok (.aload_n 0, 1) := by decide +kernel
theorem dX2_has_1 : decode cX2_has 1 = .ok (.iload_n 1, 1) := by decide +kernel
theorem dX2_has_2 : decode cX2_has 2 = .ok (.invokevirtual 25, 3) := by decide +kernel
theorem dX2_has_5 : decode cX2_has 5 = .ok (.iconst (-1), 1) := by decide +kernel
theorem dX2_has_6 : decode cX2_has 6 = .ok (.if_icmp .eq 7, 3) := by decide +kernel
theorem dX2_has_9 : decode cX2_has 9 = .ok (.iconst 1, 1) := by decide +kernel
theorem dX2_has_10 : decode cX2_has 10 = .ok (.goto 4, 3) := by decide +kernel
theorem dX2_has_13 : decode cX2_has 13 = .ok (.iconst 0, 1) := by decide +kernel
theorem dX2_has_14 : decode cX2_has 14 = .ok (.ireturn, 1) := by decide +kernel
theorem dX2_put_0 : decode cX2_put 0 = .ok (.aload_n 0, 1) := by decide +kernel
theorem dX2_put_1 : decode cX2_put 1 = .ok (.iload_n 1, 1) := by decide +kernel
theorem dX2_put_2 : decode cX2_put 2 = .ok (.invokevirtual 21, 3) := by decide +kernel
theorem dX2_put_5 : decode cX2_put 5 = .ok (.ifCond .eq 10, 3) := by decide +kernel
theorem dX2_put_8 : decode cX2_put 8 = .ok (.aload_n 0, 1) := by decide +kernel
theorem dX2_put_9 : decode cX2_put 9 = .ok (.getfield 9, 3) := by decide +kernel
theorem dX2_put_12 : decode cX2_put 12 = .ok (.iload_n 1, 1) := by decide +kernel
theorem dX2_put_13 : decode cX2_put 13 = .ok (.iload_n 2, 1) := by decide +kernel
theorem dX2_put_14 : decode cX2_put 14 = .ok (.iastore, 1) := by decide +kernel
theorem dX2_put_15 : decode cX2_put 15 = .ok (.return_, 1) := by decide +kernel
theorem dX2_takeOut_0 : decode cX2_takeOut 0 = .ok (.aload_n 0, 1) := by decide +kernel
theorem dX2_takeOut_1 : decode cX2_takeOut 1 = .ok (.iload_n 1, 1) := by decide +kernel
theorem dX2_takeOut_2 : decode cX2_takeOut 2 = .ok (.iconst (-1), 1) := by decide +kernel
theorem dX2_takeOut_3 : decode cX2_takeOut 3 = .ok (.invokevirtual 29, 3) := by decide +kernel
theorem dX2_takeOut_6 : decode cX2_takeOut 6 = .ok (.return_, 1) := by decide +kernel
theorem dX2_takeOutUpTo_0 : decode cX2_takeOutUpTo 0 = .ok (.iconst 0, 1) := by decide +kernel
theorem dX2_takeOutUpTo_1 : decode cX2_takeOutUpTo 1 = .ok (.istore_n 2, 1) := by decide +kernel
theorem dX2_takeOutUpTo_2 : decode cX2_takeOutUpTo 2 = .ok (.iload_n 2, 1) := by decide +kernel
theorem dX2_takeOutUpTo_3 : decode cX2_takeOutUpTo 3 = .ok (.aload_n 0, 1) := by decide +kernel
theorem dX2_takeOutUpTo_4 : decode cX2_takeOutUpTo 4 = .ok (.getfield 9, 3) := by decide +kernel
theorem dX2_takeOutUpTo_7 : decode cX2_takeOutUpTo 7 = .ok (.arraylength, 1) := by decide +kernel
theorem dX2_takeOutUpTo_8 : decode cX2_takeOutUpTo 8 = .ok (.if_icmp .ge 26, 3) := by decide +kernel
theorem dX2_takeOutUpTo_11 : decode cX2_takeOutUpTo 11 = .ok (.aload_n 0, 1) := by decide +kernel
theorem dX2_takeOutUpTo_12 : decode cX2_takeOutUpTo 12 = .ok (.getfield 9, 3) := by decide +kernel
theorem dX2_takeOutUpTo_15 : decode cX2_takeOutUpTo 15 = .ok (.iload_n 2, 1) := by decide +kernel
theorem dX2_takeOutUpTo_16 : decode cX2_takeOutUpTo 16 = .ok (.iaload, 1) := by decide +kernel
theorem dX2_takeOutUpTo_17 : decode cX2_takeOutUpTo 17 = .ok (.iload_n 1, 1) := by decide +kernel
theorem dX2_takeOutUpTo_18 : decode cX2_takeOutUpTo 18 = .ok (.if_icmp .gt 10, 3) := by decide +kernel
theorem dX2_takeOutUpTo_21 : decode cX2_takeOutUpTo 21 = .ok (.aload_n 0, 1) := by decide +kernel
theorem dX2_takeOutUpTo_22 : decode cX2_takeOutUpTo 22 = .ok (.getfield 9, 3) := by decide +kernel
theorem dX2_takeOutUpTo_25 : decode cX2_takeOutUpTo 25 = .ok (.iload_n 2, 1) := by decide +kernel
theorem dX2_takeOutUpTo_26 : decode cX2_takeOutUpTo 26 = .ok (.iconst (-1), 1) := by decide +kernel
theorem dX2_takeOutUpTo_27 : decode cX2_takeOutUpTo 27 = .ok (.iastore, 1) := by decide +kernel
theorem dX2_takeOutUpTo_28 : decode cX2_takeOutUpTo 28 = .ok (.iinc 2 1, 3) := by decide +kernel
theorem dX2_takeOutUpTo_31 : decode cX2_takeOutUpTo 31 = .ok (.goto (-29), 3) := by decide +kernel
theorem dX2_takeOutUpTo_34 : decode cX2_takeOutUpTo 34 = .ok (.return_, 1) := by decide +kernel
theorem dX2_clear_0 : decode cX2_clear 0 = .ok (.aload_n 0, 1) := by decide +kernel
theorem dX2_clear_1 : decode cX2_clear 1 = .ok (.getfield 9, 3) := by decide +kernel
theorem dX2_clear_4 : decode cX2_clear 4 = .ok (.iconst (-1), 1) := by decide +kernel
theorem dX2_clear_5 : decode cX2_clear 5 = .ok (.invokestatic 15, 3) := by decide +kernel
theorem dX2_clear_8 : decode cX2_clear 8 = .ok (.return_, 1) := by decide +kernel
theorem dX2_count_0 : decode cX2_count 0 = .ok (.iconst 0, 1) := by decide +kernel
theorem dX2_count_1 : decode cX2_count 1 = .ok (.istore_n 1, 1) := by decide +kernel
theorem dX2_count_2 : decode cX2_count 2 = .ok (.iconst 0, 1) := by decide +kernel
theorem dX2_count_3 : decode cX2_count 3 = .ok (.istore_n 2, 1) := by decide +kernel
theorem dX2_count_4 : decode cX2_count 4 = .ok (.iload_n 2, 1) := by decide +kernel
theorem dX2_count_5 : decode cX2_count 5 = .ok (.aload_n 0, 1) := by decide +kernel
theorem dX2_count_6 : decode cX2_count 6 = .ok (.getfield 9, 3) := by decide +kernel
theorem dX2_count_9 : decode cX2_count 9 = .ok (.arraylength, 1) := by decide +kernel
theorem dX2_count_10 : decode cX2_count 10 = .ok (.if_icmp .ge 22, 3) := by decide +kernel
theorem dX2_count_13 : decode cX2_count 13 = .ok (.aload_n 0, 1) := by decide +kernel
theorem dX2_count_14 : decode cX2_count 14 = .ok (.getfield 9, 3) := by decide +kernel
theorem dX2_count_17 : decode cX2_count 17 = .ok (.iload_n 2, 1) := by decide +kernel
theorem dX2_count_18 : decode cX2_count 18 = .ok (.iaload, 1) := by decide +kernel
theorem dX2_count_19 : decode cX2_count 19 = .ok (.iconst (-1), 1) := by decide +kernel
theorem dX2_count_20 : decode cX2_count 20 = .ok (.if_icmp .eq 6, 3) := by decide +kernel
theorem dX2_count_23 : decode cX2_count 23 = .ok (.iinc 1 1, 3) := by decide +kernel
theorem dX2_count_26 : decode cX2_count 26 = .ok (.iinc 2 1, 3) := by decide +kernel
theorem dX2_count_29 : decode cX2_count 29 = .ok (.goto (-25), 3) := by decide +kernel
theorem dX2_count_32 : decode cX2_count 32 = .ok (.iload_n 1, 1) := by decide +kernel
theorem dX2_count_33 : decode cX2_count 33 = .ok (.ireturn, 1) := by decide +kernel
theorem dX2_isLine_0 : decode cX2_isLine 0 = .ok (.iload_n 1, 1) := by decide +kernel
theorem dX2_isLine_1 : decode cX2_isLine 1 = .ok (.ifCond .lt 16, 3) := by decide +kernel
theorem dX2_isLine_4 : decode cX2_isLine 4 = .ok (.iload_n 1, 1) := by decide +kernel
theorem dX2_isLine_5 : decode cX2_isLine 5 = .ok (.aload_n 0, 1) := by decide +kernel
theorem dX2_isLine_6 : decode cX2_isLine 6 = .ok (.getfield 9, 3) := by decide +kernel
theorem dX2_isLine_9 : decode cX2_isLine 9 = .ok (.arraylength, 1) := by decide +kernel
theorem dX2_isLine_10 : decode cX2_isLine 10 = .ok (.if_icmp .ge 7, 3) := by decide +kernel
theorem dX2_isLine_13 : decode cX2_isLine 13 = .ok (.iconst 1, 1) := by decide +kernel
theorem dX2_isLine_14 : decode cX2_isLine 14 = .ok (.goto 4, 3) := by decide +kernel
theorem dX2_isLine_17 : decode cX2_isLine 17 = .ok (.iconst 0, 1) := by decide +kernel
theorem dX2_isLine_18 : decode cX2_isLine 18 = .ok (.ireturn, 1) := by decide +kernel
theorem dX3_init_0 : decode cX3_init 0 = .ok (.aload_n 0, 1) := by decide +kernel
theorem dX3_init_1 : decode cX3_init 1 = .ok (.invokespecial 1, 3) := by decide +kernel
theorem dX3_init_4 : decode cX3_init 4 = .ok (.aload_n 0, 1) := by decide +kernel
theorem dX3_init_5 : decode cX3_init 5 = .ok (.iload_n 1, 1) := by decide +kernel
theorem dX3_init_6 : decode cX3_init 6 = .ok (.putfield 7, 3) := by decide +kernel
theorem dX3_init_9 : decode cX3_init 9 = .ok (.aload_n 0, 1) := by decide +kernel
theorem dX3_init_10 : decode cX3_init 10 = .ok (.iload_n 2, 1) := by decide +kernel
theorem dX3_init_11 : decode cX3_init 11 = .ok (.putfield 13, 3) := by decide +kernel
theorem dX3_init_14 : decode cX3_init 14 = .ok (.aload_n 0, 1) := by decide +kernel
theorem dX3_init_15 : decode cX3_init 15 = .ok (.iload_n 3, 1) := by decide +kernel
theorem dX3_init_16 : decode cX3_init 16 = .ok (.putfield 16, 3) := by decide +kernel
theorem dX3_init_19 : decode cX3_init 19 = .ok (.aload_n 0, 1) := by decide +kernel
theorem dX3_init_20 : decode cX3_init 20 = .ok (.iload 4, 2) := by decide +kernel
theorem dX3_init_22 : decode cX3_init 22 = .ok (.putfield 19, 3) := by decide +kernel
theorem dX3_init_25 : decode cX3_init 25 = .ok (.return_, 1) := by decide +kernel
theorem dX3_paidBy_0 : decode cX3_paidBy 0 = .ok (.iload_n 1, 1) := by decide +kernel
theorem dX3_paidBy_1 : decode cX3_paidBy 1 = .ok (.aload_n 0, 1) := by decide +kernel
theorem dX3_paidBy_2 : decode cX3_paidBy 2 = .ok (.getfield 7, 3) := by decide +kernel
theorem dX3_paidBy_5 : decode cX3_paidBy 5 = .ok (.if_icmp .ne 8, 3) := by decide +kernel
theorem dX3_paidBy_8 : decode cX3_paidBy 8 = .ok (.aload_n 0, 1) := by decide +kernel
theorem dX3_paidBy_9 : decode cX3_paidBy 9 = .ok (.getfield 13, 3) := by decide +kernel
theorem dX3_paidBy_12 : decode cX3_paidBy 12 = .ok (.ireturn, 1) := by decide +kernel
theorem dX3_paidBy_13 : decode cX3_paidBy 13 = .ok (.iload_n 1, 1) := by decide +kernel
theorem dX3_paidBy_14 : decode cX3_paidBy 14 = .ok (.aload_n 0, 1) := by decide +kernel
theorem dX3_paidBy_15 : decode cX3_paidBy 15 = .ok (.getfield 16, 3) := by decide +kernel
theorem dX3_paidBy_18 : decode cX3_paidBy 18 = .ok (.if_icmp .ne 10, 3) := by decide +kernel
theorem dX3_paidBy_21 : decode cX3_paidBy 21 = .ok (.aload_n 0, 1) := by decide +kernel
theorem dX3_paidBy_22 : decode cX3_paidBy 22 = .ok (.getfield 19, 3) := by decide +kernel
theorem dX3_paidBy_25 : decode cX3_paidBy 25 = .ok (.goto 4, 3) := by decide +kernel
theorem dX3_paidBy_28 : decode cX3_paidBy 28 = .ok (.iconst 0, 1) := by decide +kernel
theorem dX3_paidBy_29 : decode cX3_paidBy 29 = .ok (.ireturn, 1) := by decide +kernel
theorem dX4_init_0 : decode cX4_init 0 = .ok (.aload_n 0, 1) := by decide +kernel
theorem dX4_init_1 : decode cX4_init 1 = .ok (.invokespecial 3, 3) := by decide +kernel
theorem dX4_init_4 : decode cX4_init 4 = .ok (.aload_n 0, 1) := by decide +kernel
theorem dX4_init_5 : decode cX4_init 5 = .ok (.iconst 0, 1) := by decide +kernel
theorem dX4_init_6 : decode cX4_init 6 = .ok (.putfield 9, 3) := by decide +kernel
theorem dX4_init_9 : decode cX4_init 9 = .ok (.aload_n 0, 1) := by decide +kernel
theorem dX4_init_10 : decode cX4_init 10 = .ok (.iconst (-1), 1) := by decide +kernel
theorem dX4_init_11 : decode cX4_init 11 = .ok (.putfield 15, 3) := by decide +kernel
theorem dX4_init_14 : decode cX4_init 14 = .ok (.aload_n 0, 1) := by decide +kernel
theorem dX4_init_15 : decode cX4_init 15 = .ok (.iload_n 1, 1) := by decide +kernel
theorem dX4_init_16 : decode cX4_init 16 = .ok (.putfield 18, 3) := by decide +kernel
theorem dX4_init_19 : decode cX4_init 19 = .ok (.aload_n 0, 1) := by decide +kernel
theorem dX4_init_20 : decode cX4_init 20 = .ok (.iload_n 2, 1) := by decide +kernel
theorem dX4_init_21 : decode cX4_init 21 = .ok (.putfield 21, 3) := by decide +kernel
theorem dX4_init_24 : decode cX4_init 24 = .ok (.aload_n 0, 1) := by decide +kernel
theorem dX4_init_25 : decode cX4_init 25 = .ok (.aload_n 3, 1) := by decide +kernel
theorem dX4_init_26 : decode cX4_init 26 = .ok (.putfield 24, 3) := by decide +kernel
theorem dX4_init_29 : decode cX4_init 29 = .ok (.return_, 1) := by decide +kernel
theorem dX4_owed_0 : decode cX4_owed 0 = .ok (.aload_n 0, 1) := by decide +kernel
theorem dX4_owed_1 : decode cX4_owed 1 = .ok (.getfield 9, 3) := by decide +kernel
theorem dX4_owed_4 : decode cX4_owed 4 = .ok (.iconst 2, 1) := by decide +kernel
theorem dX4_owed_5 : decode cX4_owed 5 = .ok (.if_icmp .ne 10, 3) := by decide +kernel
theorem dX4_owed_8 : decode cX4_owed 8 = .ok (.aload_n 0, 1) := by decide +kernel
theorem dX4_owed_9 : decode cX4_owed 9 = .ok (.getfield 24, 3) := by decide +kernel
theorem dX4_owed_12 : decode cX4_owed 12 = .ok (.ifnonnull 5, 3) := by decide +kernel
theorem dX4_owed_15 : decode cX4_owed 15 = .ok (.iconst 0, 1) := by decide +kernel
theorem dX4_owed_16 : decode cX4_owed 16 = .ok (.ireturn, 1) := by decide +kernel
theorem dX4_owed_17 : decode cX4_owed 17 = .ok (.aload_n 0, 1) := by decide +kernel
theorem dX4_owed_18 : decode cX4_owed 18 = .ok (.getfield 18, 3) := by decide +kernel
theorem dX4_owed_21 : decode cX4_owed 21 = .ok (.aload_n 0, 1) := by decide +kernel
theorem dX4_owed_22 : decode cX4_owed 22 = .ok (.getfield 24, 3) := by decide +kernel
theorem dX4_owed_25 : decode cX4_owed 25 = .ok (.iload_n 1, 1) := by decide +kernel
theorem dX4_owed_26 : decode cX4_owed 26 = .ok (.invokevirtual 28, 3) := by decide +kernel
theorem dX4_owed_29 : decode cX4_owed 29 = .ok (.imul, 1) := by decide +kernel
theorem dX4_owed_30 : decode cX4_owed 30 = .ok (.ireturn, 1) := by decide +kernel
theorem dX5_init_0 : decode cX5_init 0 = .ok (.aload_n 0, 1) := by decide +kernel
theorem dX5_init_1 : decode cX5_init 1 = .ok (.invokespecial 3, 3) := by decide +kernel
theorem dX5_init_4 : decode cX5_init 4 = .ok (.aload_n 0, 1) := by decide +kernel
theorem dX5_init_5 : decode cX5_init 5 = .ok (.new 9, 3) := by decide +kernel
theorem dX5_init_8 : decode cX5_init 8 = .ok (.dup, 1) := by decide +kernel
theorem dX5_init_9 : decode cX5_init 9 = .ok (.invokespecial 11, 3) := by decide +kernel
theorem dX5_init_12 : decode cX5_init 12 = .ok (.putfield 12, 3) := by decide +kernel
theorem dX5_init_15 : decode cX5_init 15 = .ok (.aload_n 0, 1) := by decide +kernel
theorem dX5_init_16 : decode cX5_init 16 = .ok (.iconst (-1), 1) := by decide +kernel
theorem dX5_init_17 : decode cX5_init 17 = .ok (.putfield 18, 3) := by decide +kernel
theorem dX5_init_20 : decode cX5_init 20 = .ok (.aload_n 0, 1) := by decide +kernel
theorem dX5_init_21 : decode cX5_init 21 = .ok (.bipush 10, 2) := by decide +kernel
theorem dX5_init_23 : decode cX5_init 23 = .ok (.putfield 22, 3) := by decide +kernel
theorem dX5_init_26 : decode cX5_init 26 = .ok (.aload_n 0, 1) := by decide +kernel
theorem dX5_init_27 : decode cX5_init 27 = .ok (.bipush 50, 2) := by decide +kernel
theorem dX5_init_29 : decode cX5_init 29 = .ok (.putfield 25, 3) := by decide +kernel
theorem dX5_init_32 : decode cX5_init 32 = .ok (.aload_n 0, 1) := by decide +kernel
theorem dX5_init_33 : decode cX5_init 33 = .ok (.bipush 20, 2) := by decide +kernel
theorem dX5_init_35 : decode cX5_init 35 = .ok (.putfield 28, 3) := by decide +kernel
theorem dX5_init_38 : decode cX5_init 38 = .ok (.return_, 1) := by decide +kernel
theorem dX6_init_0 : decode cX6_init 0 = .ok (.aload_n 0, 1) := by decide +kernel
theorem dX6_init_1 : decode cX6_init 1 = .ok (.invokespecial 3, 3) := by decide +kernel
theorem dX6_init_4 : decode cX6_init 4 = .ok (.aload_n 0, 1) := by decide +kernel
theorem dX6_init_5 : decode cX6_init 5 = .ok (.iconst (-1), 1) := by decide +kernel
theorem dX6_init_6 : decode cX6_init 6 = .ok (.putfield 9, 3) := by decide +kernel
theorem dX6_init_9 : decode cX6_init 9 = .ok (.aload_n 0, 1) := by decide +kernel
theorem dX6_init_10 : decode cX6_init 10 = .ok (.iconst (-1), 1) := by decide +kernel
theorem dX6_init_11 : decode cX6_init 11 = .ok (.putfield 15, 3) := by decide +kernel
theorem dX6_init_14 : decode cX6_init 14 = .ok (.aload_n 0, 1) := by decide +kernel
theorem dX6_init_15 : decode cX6_init 15 = .ok (.sipush 5000, 3) := by decide +kernel
theorem dX6_init_18 : decode cX6_init 18 = .ok (.putfield 18, 3) := by decide +kernel
theorem dX6_init_21 : decode cX6_init 21 = .ok (.aload_n 0, 1) := by decide +kernel
theorem dX6_init_22 : decode cX6_init 22 = .ok (.iload_n 1, 1) := by decide +kernel
theorem dX6_init_23 : decode cX6_init 23 = .ok (.putfield 21, 3) := by decide +kernel
theorem dX6_init_26 : decode cX6_init 26 = .ok (.aload_n 0, 1) := by decide +kernel
theorem dX6_init_27 : decode cX6_init 27 = .ok (.iload_n 2, 1) := by decide +kernel
theorem dX6_init_28 : decode cX6_init 28 = .ok (.putfield 24, 3) := by decide +kernel
theorem dX6_init_31 : decode cX6_init 31 = .ok (.aload_n 0, 1) := by decide +kernel
theorem dX6_init_32 : decode cX6_init 32 = .ok (.iload_n 3, 1) := by decide +kernel
theorem dX6_init_33 : decode cX6_init 33 = .ok (.putfield 27, 3) := by decide +kernel
theorem dX6_init_36 : decode cX6_init 36 = .ok (.aload_n 0, 1) := by decide +kernel
theorem dX6_init_37 : decode cX6_init 37 = .ok (.iload 4, 2) := by decide +kernel
theorem dX6_init_39 : decode cX6_init 39 = .ok (.putfield 30, 3) := by decide +kernel
theorem dX6_init_42 : decode cX6_init 42 = .ok (.return_, 1) := by decide +kernel
theorem dX6_isAbroad_0 : decode cX6_isAbroad 0 = .ok (.aload_n 0, 1) := by decide +kernel
theorem dX6_isAbroad_1 : decode cX6_isAbroad 1 = .ok (.getfield 9, 3) := by decide +kernel
theorem dX6_isAbroad_4 : decode cX6_isAbroad 4 = .ok (.iconst (-1), 1) := by decide +kernel
theorem dX6_isAbroad_5 : decode cX6_isAbroad 5 = .ok (.if_icmp .eq 18, 3) := by decide +kernel
theorem dX6_isAbroad_8 : decode cX6_isAbroad 8 = .ok (.aload_n 0, 1) := by decide +kernel
theorem dX6_isAbroad_9 : decode cX6_isAbroad 9 = .ok (.getfield 9, 3) := by decide +kernel
theorem dX6_isAbroad_12 : decode cX6_isAbroad 12 = .ok (.aload_n 0, 1) := by decide +kernel
theorem dX6_isAbroad_13 : decode cX6_isAbroad 13 = .ok (.getfield 24, 3) := by decide +kernel
theorem dX6_isAbroad_16 : decode cX6_isAbroad 16 = .ok (.if_icmp .eq 7, 3) := by decide +kernel
theorem dX6_isAbroad_19 : decode cX6_isAbroad 19 = .ok (.iconst 1, 1) := by decide +kernel
theorem dX6_isAbroad_20 : decode cX6_isAbroad 20 = .ok (.goto 4, 3) := by decide +kernel
theorem dX6_isAbroad_23 : decode cX6_isAbroad 23 = .ok (.iconst 0, 1) := by decide +kernel
theorem dX6_isAbroad_24 : decode cX6_isAbroad 24 = .ok (.ireturn, 1) := by decide +kernel
theorem dX6_wouldComeAboveCap_0 : decode cX6_wouldComeAboveCap 0 = .ok (.aload_n 0, 1) := by decide +kernel
theorem dX6_wouldComeAboveCap_1 : decode cX6_wouldComeAboveCap 1 = .ok (.invokevirtual 33, 3) := by decide +kernel
theorem dX6_wouldComeAboveCap_4 : decode cX6_wouldComeAboveCap 4 = .ok (.ifCond .eq 27, 3) := by decide +kernel
theorem dX6_wouldComeAboveCap_7 : decode cX6_wouldComeAboveCap 7 = .ok (.aload_n 0, 1) := by decide +kernel
theorem dX6_wouldComeAboveCap_8 : decode cX6_wouldComeAboveCap 8 = .ok (.getfield 37, 3) := by decide +kernel
theorem dX6_wouldComeAboveCap_11 : decode cX6_wouldComeAboveCap 11 = .ok (.ifCond .ne 20, 3) := by decide +kernel
theorem dX6_wouldComeAboveCap_14 : decode cX6_wouldComeAboveCap 14 = .ok (.aload_n 0, 1) := by decide +kernel
theorem dX6_wouldComeAboveCap_15 : decode cX6_wouldComeAboveCap 15 = .ok (.getfield 41, 3) := by decide +kernel
theorem dX6_wouldComeAboveCap_18 : decode cX6_wouldComeAboveCap 18 = .ok (.iload_n 1, 1) := by decide +kernel
theorem dX6_wouldComeAboveCap_19 : decode cX6_wouldComeAboveCap 19 = .ok (.iadd, 1) := by decide +kernel
theorem dX6_wouldComeAboveCap_20 : decode cX6_wouldComeAboveCap 20 = .ok (.aload_n 0, 1) := by decide +kernel
theorem dX6_wouldComeAboveCap_21 : decode cX6_wouldComeAboveCap 21 = .ok (.getfield 18, 3) := by decide +kernel
theorem dX6_wouldComeAboveCap_24 : decode cX6_wouldComeAboveCap 24 = .ok (.if_icmp .le 7, 3) := by decide +kernel
theorem dX6_wouldComeAboveCap_27 : decode cX6_wouldComeAboveCap 27 = .ok (.iconst 1, 1) := by decide +kernel
theorem dX6_wouldComeAboveCap_28 : decode cX6_wouldComeAboveCap 28 = .ok (.goto 4, 3) := by decide +kernel
theorem dX6_wouldComeAboveCap_31 : decode cX6_wouldComeAboveCap 31 = .ok (.iconst 0, 1) := by decide +kernel
theorem dX6_wouldComeAboveCap_32 : decode cX6_wouldComeAboveCap 32 = .ok (.ireturn, 1) := by decide +kernel
theorem dX6_isWarned_0 : decode cX6_isWarned 0 = .ok (.aload_n 0, 1) := by decide +kernel
theorem dX6_isWarned_1 : decode cX6_isWarned 1 = .ok (.getfield 41, 3) := by decide +kernel
theorem dX6_isWarned_4 : decode cX6_isWarned 4 = .ok (.i2l, 1) := by decide +kernel
theorem dX6_isWarned_5 : decode cX6_isWarned 5 = .ok (.ldc2_w 44, 3) := by decide +kernel
theorem dX6_isWarned_8 : decode cX6_isWarned 8 = .ok (.lmul, 1) := by decide +kernel
theorem dX6_isWarned_9 : decode cX6_isWarned 9 = .ok (.aload_n 0, 1) := by decide +kernel
theorem dX6_isWarned_10 : decode cX6_isWarned 10 = .ok (.getfield 18, 3) := by decide +kernel
theorem dX6_isWarned_13 : decode cX6_isWarned 13 = .ok (.i2l, 1) := by decide +kernel
theorem dX6_isWarned_14 : decode cX6_isWarned 14 = .ok (.ldc2_w 46, 3) := by decide +kernel
theorem dX6_isWarned_17 : decode cX6_isWarned 17 = .ok (.lmul, 1) := by decide +kernel
theorem dX6_isWarned_18 : decode cX6_isWarned 18 = .ok (.lcmp, 1) := by decide +kernel
theorem dX6_isWarned_19 : decode cX6_isWarned 19 = .ok (.ifCond .lt 7, 3) := by decide +kernel
theorem dX6_isWarned_22 : decode cX6_isWarned 22 = .ok (.iconst 1, 1) := by decide +kernel
theorem dX6_isWarned_23 : decode cX6_isWarned 23 = .ok (.goto 4, 3) := by decide +kernel
theorem dX6_isWarned_26 : decode cX6_isWarned 26 = .ok (.iconst 0, 1) := by decide +kernel
theorem dX6_isWarned_27 : decode cX6_isWarned 27 = .ok (.ireturn, 1) := by decide +kernel
theorem dX7_init_0 : decode cX7_init 0 = .ok (.aload_n 0, 1) := by decide +kernel
theorem dX7_init_1 : decode cX7_init 1 = .ok (.invokespecial 1, 3) := by decide +kernel
theorem dX7_init_4 : decode cX7_init 4 = .ok (.aload_n 0, 1) := by decide +kernel
theorem dX7_init_5 : decode cX7_init 5 = .ok (.bipush 8, 2) := by decide +kernel
theorem dX7_init_7 : decode cX7_init 7 = .ok (.newarray .int, 2) := by decide +kernel
theorem dX7_init_9 : decode cX7_init 9 = .ok (.putfield 9, 3) := by decide +kernel
theorem dX7_init_12 : decode cX7_init 12 = .ok (.aload_n 0, 1) := by decide +kernel
theorem dX7_init_13 : decode cX7_init 13 = .ok (.bipush 6, 2) := by decide +kernel
theorem dX7_init_15 : decode cX7_init 15 = .ok (.anewarray 13, 3) := by decide +kernel
theorem dX7_init_18 : decode cX7_init 18 = .ok (.putfield 15, 3) := by decide +kernel
theorem dX7_init_21 : decode cX7_init 21 = .ok (.aload_n 0, 1) := by decide +kernel
theorem dX7_init_22 : decode cX7_init 22 = .ok (.bipush 36, 2) := by decide +kernel
theorem dX7_init_24 : decode cX7_init 24 = .ok (.anewarray 19, 3) := by decide +kernel
theorem dX7_init_27 : decode cX7_init 27 = .ok (.putfield 21, 3) := by decide +kernel
theorem dX7_init_30 : decode cX7_init 30 = .ok (.aload_n 0, 1) := by decide +kernel
theorem dX7_init_31 : decode cX7_init 31 = .ok (.new 25, 3) := by decide +kernel
theorem dX7_init_34 : decode cX7_init 34 = .ok (.dup, 1) := by decide +kernel
theorem dX7_init_35 : decode cX7_init 35 = .ok (.invokespecial 27, 3) := by decide +kernel
theorem dX7_init_38 : decode cX7_init 38 = .ok (.putfield 28, 3) := by decide +kernel
theorem dX7_init_41 : decode cX7_init 41 = .ok (.aload_n 0, 1) := by decide +kernel
theorem dX7_init_42 : decode cX7_init 42 = .ok (.new 25, 3) := by decide +kernel
theorem dX7_init_45 : decode cX7_init 45 = .ok (.dup, 1) := by decide +kernel
theorem dX7_init_46 : decode cX7_init 46 = .ok (.invokespecial 27, 3) := by decide +kernel
theorem dX7_init_49 : decode cX7_init 49 = .ok (.putfield 32, 3) := by decide +kernel
theorem dX7_init_52 : decode cX7_init 52 = .ok (.aload_n 0, 1) := by decide +kernel
theorem dX7_init_53 : decode cX7_init 53 = .ok (.new 25, 3) := by decide +kernel
theorem dX7_init_56 : decode cX7_init 56 = .ok (.dup, 1) := by decide +kernel
theorem dX7_init_57 : decode cX7_init 57 = .ok (.invokespecial 27, 3) := by decide +kernel
theorem dX7_init_60 : decode cX7_init 60 = .ok (.putfield 35, 3) := by decide +kernel
theorem dX7_init_63 : decode cX7_init 63 = .ok (.iconst 0, 1) := by decide +kernel
theorem dX7_init_64 : decode cX7_init 64 = .ok (.istore_n 1, 1) := by decide +kernel
theorem dX7_init_65 : decode cX7_init 65 = .ok (.iload_n 1, 1) := by decide +kernel
theorem dX7_init_66 : decode cX7_init 66 = .ok (.aload_n 0, 1) := by decide +kernel
theorem dX7_init_67 : decode cX7_init 67 = .ok (.getfield 15, 3) := by decide +kernel
theorem dX7_init_70 : decode cX7_init 70 = .ok (.arraylength, 1) := by decide +kernel
theorem dX7_init_71 : decode cX7_init 71 = .ok (.if_icmp .ge 22, 3) := by decide +kernel
theorem dX7_init_74 : decode cX7_init 74 = .ok (.aload_n 0, 1) := by decide +kernel
theorem dX7_init_75 : decode cX7_init 75 = .ok (.getfield 15, 3) := by decide +kernel
theorem dX7_init_78 : decode cX7_init 78 = .ok (.iload_n 1, 1) := by decide +kernel
theorem dX7_init_79 : decode cX7_init 79 = .ok (.new 13, 3) := by decide +kernel
theorem dX7_init_82 : decode cX7_init 82 = .ok (.dup, 1) := by decide +kernel
theorem dX7_init_83 : decode cX7_init 83 = .ok (.invokespecial 38, 3) := by decide +kernel
theorem dX7_init_86 : decode cX7_init 86 = .ok (.aastore, 1) := by decide +kernel
theorem dX7_init_87 : decode cX7_init 87 = .ok (.iinc 1 1, 3) := by decide +kernel
theorem dX7_init_90 : decode cX7_init 90 = .ok (.goto (-25), 3) := by decide +kernel
theorem dX7_init_93 : decode cX7_init 93 = .ok (.iconst 0, 1) := by decide +kernel
theorem dX7_init_94 : decode cX7_init 94 = .ok (.istore_n 1, 1) := by decide +kernel
theorem dX7_init_95 : decode cX7_init 95 = .ok (.iload_n 1, 1) := by decide +kernel
theorem dX7_init_96 : decode cX7_init 96 = .ok (.aload_n 0, 1) := by decide +kernel
theorem dX7_init_97 : decode cX7_init 97 = .ok (.getfield 21, 3) := by decide +kernel
theorem dX7_init_100 : decode cX7_init 100 = .ok (.arraylength, 1) := by decide +kernel
theorem dX7_init_101 : decode cX7_init 101 = .ok (.if_icmp .ge 22, 3) := by decide +kernel
theorem dX7_init_104 : decode cX7_init 104 = .ok (.aload_n 0, 1) := by decide +kernel
theorem dX7_init_105 : decode cX7_init 105 = .ok (.getfield 21, 3) := by decide +kernel
theorem dX7_init_108 : decode cX7_init 108 = .ok (.iload_n 1, 1) := by decide +kernel
theorem dX7_init_109 : decode cX7_init 109 = .ok (.new 19, 3) := by decide +kernel
theorem dX7_init_112 : decode cX7_init 112 = .ok (.dup, 1) := by decide +kernel
theorem dX7_init_113 : decode cX7_init 113 = .ok (.invokespecial 39, 3) := by decide +kernel
theorem dX7_init_116 : decode cX7_init 116 = .ok (.aastore, 1) := by decide +kernel
theorem dX7_init_117 : decode cX7_init 117 = .ok (.iinc 1 1, 3) := by decide +kernel
theorem dX7_init_120 : decode cX7_init 120 = .ok (.goto (-25), 3) := by decide +kernel
theorem dX7_init_123 : decode cX7_init 123 = .ok (.return_, 1) := by decide +kernel
theorem dX7_reach_0 : decode cX7_reach 0 = .ok (.aload_n 0, 1) := by decide +kernel
theorem dX7_reach_1 : decode cX7_reach 1 = .ok (.iload_n 1, 1) := by decide +kernel
theorem dX7_reach_2 : decode cX7_reach 2 = .ok (.invokevirtual 40, 3) := by decide +kernel
theorem dX7_reach_5 : decode cX7_reach 5 = .ok (.istore_n 3, 1) := by decide +kernel
theorem dX7_reach_6 : decode cX7_reach 6 = .ok (.iload_n 2, 1) := by decide +kernel
theorem dX7_reach_7 : decode cX7_reach 7 = .ok (.iconst 0, 1) := by decide +kernel
theorem dX7_reach_8 : decode cX7_reach 8 = .ok (.bipush 63, 2) := by decide +kernel
theorem dX7_reach_10 : decode cX7_reach 10 = .ok (.invokestatic 44, 3) := by decide +kernel
theorem dX7_reach_13 : decode cX7_reach 13 = .ok (.aload_n 0, 1) := by decide +kernel
theorem dX7_reach_14 : decode cX7_reach 14 = .ok (.getfield 9, 3) := by decide +kernel
theorem dX7_reach_17 : decode cX7_reach 17 = .ok (.iload_n 1, 1) := by decide +kernel
theorem dX7_reach_18 : decode cX7_reach 18 = .ok (.iload_n 2, 1) := by decide +kernel
theorem dX7_reach_19 : decode cX7_reach 19 = .ok (.iastore, 1) := by decide +kernel
theorem dX7_reach_20 : decode cX7_reach 20 = .ok (.iconst 0, 1) := by decide +kernel
theorem dX7_reach_21 : decode cX7_reach 21 = .ok (.istore 4, 2) := by decide +kernel
theorem dX7_reach_23 : decode cX7_reach 23 = .ok (.iload 4, 2) := by decide +kernel
theorem dX7_reach_25 : decode cX7_reach 25 = .ok (.aload_n 0, 1) := by decide +kernel
theorem dX7_reach_26 : decode cX7_reach 26 = .ok (.getfield 32, 3) := by decide +kernel
theorem dX7_reach_29 : decode cX7_reach 29 = .ok (.invokevirtual 48, 3) := by decide +kernel
theorem dX7_reach_32 : decode cX7_reach 32 = .ok (.if_icmp .ge 38, 3) := by decide +kernel
theorem dX7_reach_35 : decode cX7_reach 35 = .ok (.aload_n 0, 1) := by decide +kernel
theorem dX7_reach_36 : decode cX7_reach 36 = .ok (.getfield 32, 3) := by decide +kernel
theorem dX7_reach_39 : decode cX7_reach 39 = .ok (.iload 4, 2) := by decide +kernel
theorem dX7_reach_41 : decode cX7_reach 41 = .ok (.invokevirtual 52, 3) := by decide +kernel
theorem dX7_reach_44 : decode cX7_reach 44 = .ok (.checkcast 56, 3) := by decide +kernel
theorem dX7_reach_47 : decode cX7_reach 47 = .ok (.astore 5, 2) := by decide +kernel
theorem dX7_reach_49 : decode cX7_reach 49 = .ok (.aload 5, 2) := by decide +kernel
theorem dX7_reach_51 : decode cX7_reach 51 = .ok (.getfield 58, 3) := by decide +kernel
theorem dX7_reach_54 : decode cX7_reach 54 = .ok (.iload_n 1, 1) := by decide +kernel
theorem dX7_reach_55 : decode cX7_reach 55 = .ok (.if_icmp .ne 9, 3) := by decide +kernel
theorem dX7_reach_58 : decode cX7_reach 58 = .ok (.aload_n 0, 1) := by decide +kernel
theorem dX7_reach_59 : decode cX7_reach 59 = .ok (.aload 5, 2) := by decide +kernel
theorem dX7_reach_61 : decode cX7_reach 61 = .ok (.invokevirtual 62, 3) := by decide +kernel
theorem dX7_reach_64 : decode cX7_reach 64 = .ok (.iinc 4 1, 3) := by decide +kernel
theorem dX7_reach_67 : decode cX7_reach 67 = .ok (.goto (-44), 3) := by decide +kernel
theorem dX7_reach_70 : decode cX7_reach 70 = .ok (.iload_n 3, 1) := by decide +kernel
theorem dX7_reach_71 : decode cX7_reach 71 = .ok (.ireturn, 1) := by decide +kernel
theorem dX7_dead_0 : decode cX7_dead 0 = .ok (.aload_n 0, 1) := by decide +kernel
theorem dX7_dead_1 : decode cX7_dead 1 = .ok (.iload_n 1, 1) := by decide +kernel
theorem dX7_dead_2 : decode cX7_dead 2 = .ok (.invokevirtual 66, 3) := by decide +kernel
theorem dX7_dead_5 : decode cX7_dead 5 = .ok (.astore_n 3, 1) := by decide +kernel
theorem dX7_dead_6 : decode cX7_dead 6 = .ok (.aload_n 3, 1) := by decide +kernel
theorem dX7_dead_7 : decode cX7_dead 7 = .ok (.getfield 70, 3) := by decide +kernel
theorem dX7_dead_10 : decode cX7_dead 10 = .ok (.istore 4, 2) := by decide +kernel
theorem dX7_dead_12 : decode cX7_dead 12 = .ok (.aload_n 3, 1) := by decide +kernel
theorem dX7_dead_13 : decode cX7_dead 13 = .ok (.iload_n 2, 1) := by decide +kernel
theorem dX7_dead_14 : decode cX7_dead 14 = .ok (.putfield 70, 3) := by decide +kernel
theorem dX7_dead_17 : decode cX7_dead 17 = .ok (.iload_n 2, 1) := by decide +kernel
theorem dX7_dead_18 : decode cX7_dead 18 = .ok (.ifCond .eq 15, 3) := by decide +kernel
theorem dX7_dead_21 : decode cX7_dead 21 = .ok (.aload_n 3, 1) := by decide +kernel
theorem dX7_dead_22 : decode cX7_dead 22 = .ok (.getfield 74, 3) := by decide +kernel
theorem dX7_dead_25 : decode cX7_dead 25 = .ok (.invokevirtual 78, 3) := by decide +kernel
theorem dX7_dead_28 : decode cX7_dead 28 = .ok (.aload_n 0, 1) := by decide +kernel
theorem dX7_dead_29 : decode cX7_dead 29 = .ok (.iload_n 1, 1) := by decide +kernel
theorem dX7_dead_30 : decode cX7_dead 30 = .ok (.invokevirtual 83, 3) := by decide +kernel
theorem dX7_dead_33 : decode cX7_dead 33 = .ok (.iload 4, 2) := by decide +kernel
theorem dX7_dead_35 : decode cX7_dead 35 = .ok (.ireturn, 1) := by decide +kernel
theorem dX7_agree_0 : decode cX7_agree 0 = .ok (.aload_n 0, 1) := by decide +kernel
theorem dX7_agree_1 : decode cX7_agree 1 = .ok (.iload_n 1, 1) := by decide +kernel
theorem dX7_agree_2 : decode cX7_agree 2 = .ok (.invokevirtual 87, 3) := by decide +kernel
theorem dX7_agree_5 : decode cX7_agree 5 = .ok (.aload_n 0, 1) := by decide +kernel
theorem dX7_agree_6 : decode cX7_agree 6 = .ok (.iload_n 2, 1) := by decide +kernel
theorem dX7_agree_7 : decode cX7_agree 7 = .ok (.invokevirtual 87, 3) := by decide +kernel
theorem dX7_agree_10 : decode cX7_agree 10 = .ok (.iload_n 1, 1) := by decide +kernel
theorem dX7_agree_11 : decode cX7_agree 11 = .ok (.iload_n 2, 1) := by decide +kernel
theorem dX7_agree_12 : decode cX7_agree 12 = .ok (.invokestatic 90, 3) := by decide +kernel
theorem dX7_agree_15 : decode cX7_agree 15 = .ok (.iload_n 3, 1) := by decide +kernel
theorem dX7_agree_16 : decode cX7_agree 16 = .ok (.iconst 0, 1) := by decide +kernel
theorem dX7_agree_17 : decode cX7_agree 17 = .ok (.ldc 94, 2) := by decide +kernel
theorem dX7_agree_19 : decode cX7_agree 19 = .ok (.invokestatic 44, 3) := by decide +kernel
theorem dX7_agree_22 : decode cX7_agree 22 = .ok (.iload 4, 2) := by decide +kernel
theorem dX7_agree_24 : decode cX7_agree 24 = .ok (.iload_n 3, 1) := by decide +kernel
theorem dX7_agree_25 : decode cX7_agree 25 = .ok (.iconst 1, 1) := by decide +kernel
theorem dX7_agree_26 : decode cX7_agree 26 = .ok (.iadd, 1) := by decide +kernel
theorem dX7_agree_27 : decode cX7_agree 27 = .ok (.ldc 95, 2) := by decide +kernel
theorem dX7_agree_29 : decode cX7_agree 29 = .ok (.invokestatic 44, 3) := by decide +kernel
theorem dX7_agree_32 : decode cX7_agree 32 = .ok (.iload 5, 2) := by decide +kernel
theorem dX7_agree_34 : decode cX7_agree 34 = .ok (.iconst 0, 1) := by decide +kernel
theorem dX7_agree_35 : decode cX7_agree 35 = .ok (.bipush 99, 2) := by decide +kernel
theorem dX7_agree_37 : decode cX7_agree 37 = .ok (.invokestatic 44, 3) := by decide +kernel
theorem dX7_agree_40 : decode cX7_agree 40 = .ok (.iload 6, 2) := by decide +kernel
theorem dX7_agree_42 : decode cX7_agree 42 = .ok (.iconst 0, 1) := by decide +kernel
theorem dX7_agree_43 : decode cX7_agree 43 = .ok (.sipush 9999, 3) := by decide +kernel
theorem dX7_agree_46 : decode cX7_agree 46 = .ok (.invokestatic 44, 3) := by decide +kernel
theorem dX7_agree_49 : decode cX7_agree 49 = .ok (.iload 7, 2) := by decide +kernel
theorem dX7_agree_51 : decode cX7_agree 51 = .ok (.iconst 0, 1) := by decide +kernel
theorem dX7_agree_52 : decode cX7_agree 52 = .ok (.iload 5, 2) := by decide +kernel
theorem dX7_agree_54 : decode cX7_agree 54 = .ok (.invokestatic 44, 3) := by decide +kernel
theorem dX7_agree_57 : decode cX7_agree 57 = .ok (.aload_n 0, 1) := by decide +kernel
theorem dX7_agree_58 : decode cX7_agree 58 = .ok (.getfield 28, 3) := by decide +kernel
theorem dX7_agree_61 : decode cX7_agree 61 = .ok (.invokevirtual 48, 3) := by decide +kernel
theorem dX7_agree_64 : decode cX7_agree 64 = .ok (.bipush 30, 2) := by decide +kernel
theorem dX7_agree_66 : decode cX7_agree 66 = .ok (.invokestatic 96, 3) := by decide +kernel
theorem dX7_agree_69 : decode cX7_agree 69 = .ok (.aload_n 0, 1) := by decide +kernel
theorem dX7_agree_70 : decode cX7_agree 70 = .ok (.getfield 28, 3) := by decide +kernel
theorem dX7_agree_73 : decode cX7_agree 73 = .ok (.new 99, 3) := by decide +kernel
theorem dX7_agree_76 : decode cX7_agree 76 = .ok (.dup, 1) := by decide +kernel
theorem dX7_agree_77 : decode cX7_agree 77 = .ok (.iload_n 1, 1) := by decide +kernel
theorem dX7_agree_78 : decode cX7_agree 78 = .ok (.iload_n 2, 1) := by decide +kernel
theorem dX7_agree_79 : decode cX7_agree 79 = .ok (.iload_n 3, 1) := by decide +kernel
theorem dX7_agree_80 : decode cX7_agree 80 = .ok (.iload 4, 2) := by decide +kernel
theorem dX7_agree_82 : decode cX7_agree 82 = .ok (.iload 5, 2) := by decide +kernel
theorem dX7_agree_84 : decode cX7_agree 84 = .ok (.iload 6, 2) := by decide +kernel
theorem dX7_agree_86 : decode cX7_agree 86 = .ok (.iload 7, 2) := by decide +kernel
theorem dX7_agree_88 : decode cX7_agree 88 = .ok (.invokespecial 101, 3) := by decide +kernel
theorem dX7_agree_91 : decode cX7_agree 91 = .ok (.invokevirtual 104, 3) := by decide +kernel
theorem dX7_agree_94 : decode cX7_agree 94 = .ok (.pop, 1) := by decide +kernel
theorem dX7_agree_95 : decode cX7_agree 95 = .ok (.aload_n 0, 1) := by decide +kernel
theorem dX7_agree_96 : decode cX7_agree 96 = .ok (.getfield 28, 3) := by decide +kernel
theorem dX7_agree_99 : decode cX7_agree 99 = .ok (.invokevirtual 48, 3) := by decide +kernel
theorem dX7_agree_102 : decode cX7_agree 102 = .ok (.ireturn, 1) := by decide +kernel
theorem dX7_steer_0 : decode cX7_steer 0 = .ok (.aload_n 0, 1) := by decide +kernel
theorem dX7_steer_1 : decode cX7_steer 1 = .ok (.iload_n 1, 1) := by decide +kernel
theorem dX7_steer_2 : decode cX7_steer 2 = .ok (.invokevirtual 66, 3) := by decide +kernel
theorem dX7_steer_5 : decode cX7_steer 5 = .ok (.astore_n 3, 1) := by decide +kernel
theorem dX7_steer_6 : decode cX7_steer 6 = .ok (.iload_n 2, 1) := by decide +kernel
theorem dX7_steer_7 : decode cX7_steer 7 = .ok (.iconst (-1), 1) := by decide +kernel
theorem dX7_steer_8 : decode cX7_steer 8 = .ok (.if_icmp .eq 8, 3) := by decide +kernel
theorem dX7_steer_11 : decode cX7_steer 11 = .ok (.aload_n 0, 1) := by decide +kernel
theorem dX7_steer_12 : decode cX7_steer 12 = .ok (.iload_n 2, 1) := by decide +kernel
theorem dX7_steer_13 : decode cX7_steer 13 = .ok (.invokevirtual 87, 3) := by decide +kernel
theorem dX7_steer_16 : decode cX7_steer 16 = .ok (.iload_n 1, 1) := by decide +kernel
theorem dX7_steer_17 : decode cX7_steer 17 = .ok (.iload_n 2, 1) := by decide +kernel
theorem dX7_steer_18 : decode cX7_steer 18 = .ok (.invokestatic 90, 3) := by decide +kernel
theorem dX7_steer_21 : decode cX7_steer 21 = .ok (.aload_n 3, 1) := by decide +kernel
theorem dX7_steer_22 : decode cX7_steer 22 = .ok (.getfield 108, 3) := by decide +kernel
theorem dX7_steer_25 : decode cX7_steer 25 = .ok (.istore 4, 2) := by decide +kernel
theorem dX7_steer_27 : decode cX7_steer 27 = .ok (.aload_n 3, 1) := by decide +kernel
theorem dX7_steer_28 : decode cX7_steer 28 = .ok (.iload_n 2, 1) := by decide +kernel
theorem dX7_steer_29 : decode cX7_steer 29 = .ok (.putfield 108, 3) := by decide +kernel
theorem dX7_steer_32 : decode cX7_steer 32 = .ok (.iload 4, 2) := by decide +kernel
theorem dX7_steer_34 : decode cX7_steer 34 = .ok (.ireturn, 1) := by decide +kernel
theorem dX7_prices_0 : decode cX7_prices 0 = .ok (.aload_n 0, 1) := by decide +kernel
theorem dX7_prices_1 : decode cX7_prices 1 = .ok (.iload_n 1, 1) := by decide +kernel
theorem dX7_prices_2 : decode cX7_prices 2 = .ok (.invokevirtual 66, 3) := by decide +kernel
theorem dX7_prices_5 : decode cX7_prices 5 = .ok (.astore 5, 2) := by decide +kernel
theorem dX7_prices_7 : decode cX7_prices 7 = .ok (.iload_n 2, 1) := by decide +kernel
theorem dX7_prices_8 : decode cX7_prices 8 = .ok (.iconst 0, 1) := by decide +kernel
theorem dX7_prices_9 : decode cX7_prices 9 = .ok (.bipush 99, 2) := by decide +kernel
theorem dX7_prices_11 : decode cX7_prices 11 = .ok (.invokestatic 44, 3) := by decide +kernel
theorem dX7_prices_14 : decode cX7_prices 14 = .ok (.iload_n 3, 1) := by decide +kernel
theorem dX7_prices_15 : decode cX7_prices 15 = .ok (.iconst 0, 1) := by decide +kernel
theorem dX7_prices_16 : decode cX7_prices 16 = .ok (.bipush 99, 2) := by decide +kernel
theorem dX7_prices_18 : decode cX7_prices 18 = .ok (.invokestatic 44, 3) := by decide +kernel
theorem dX7_prices_21 : decode cX7_prices 21 = .ok (.iload 4, 2) := by decide +kernel
theorem dX7_prices_23 : decode cX7_prices 23 = .ok (.iconst 0, 1) := by decide +kernel
theorem dX7_prices_24 : decode cX7_prices 24 = .ok (.bipush 99, 2) := by decide +kernel
theorem dX7_prices_26 : decode cX7_prices 26 = .ok (.invokestatic 44, 3) := by decide +kernel
theorem dX7_prices_29 : decode cX7_prices 29 = .ok (.aload 5, 2) := by decide +kernel
theorem dX7_prices_31 : decode cX7_prices 31 = .ok (.iload_n 2, 1) := by decide +kernel
theorem dX7_prices_32 : decode cX7_prices 32 = .ok (.putfield 111, 3) := by decide +kernel
theorem dX7_prices_35 : decode cX7_prices 35 = .ok (.aload 5, 2) := by decide +kernel
theorem dX7_prices_37 : decode cX7_prices 37 = .ok (.iload_n 3, 1) := by decide +kernel
theorem dX7_prices_38 : decode cX7_prices 38 = .ok (.putfield 114, 3) := by decide +kernel
theorem dX7_prices_41 : decode cX7_prices 41 = .ok (.aload 5, 2) := by decide +kernel
theorem dX7_prices_43 : decode cX7_prices 43 = .ok (.iload 4, 2) := by decide +kernel
theorem dX7_prices_45 : decode cX7_prices 45 = .ok (.putfield 117, 3) := by decide +kernel
theorem dX7_prices_48 : decode cX7_prices 48 = .ok (.return_, 1) := by decide +kernel
theorem dX7_lose_0 : decode cX7_lose 0 = .ok (.aload_n 0, 1) := by decide +kernel
theorem dX7_lose_1 : decode cX7_lose 1 = .ok (.iload_n 1, 1) := by decide +kernel
theorem dX7_lose_2 : decode cX7_lose 2 = .ok (.invokevirtual 66, 3) := by decide +kernel
theorem dX7_lose_5 : decode cX7_lose 5 = .ok (.astore_n 3, 1) := by decide +kernel
theorem dX7_lose_6 : decode cX7_lose 6 = .ok (.iload_n 2, 1) := by decide +kernel
theorem dX7_lose_7 : decode cX7_lose 7 = .ok (.iconst 0, 1) := by decide +kernel
theorem dX7_lose_8 : decode cX7_lose 8 = .ok (.bipush 9, 2) := by decide +kernel
theorem dX7_lose_10 : decode cX7_lose 10 = .ok (.invokestatic 44, 3) := by decide +kernel
theorem dX7_lose_13 : decode cX7_lose 13 = .ok (.aload_n 3, 1) := by decide +kernel
theorem dX7_lose_14 : decode cX7_lose 14 = .ok (.getfield 120, 3) := by decide +kernel
theorem dX7_lose_17 : decode cX7_lose 17 = .ok (.istore 4, 2) := by decide +kernel
theorem dX7_lose_19 : decode cX7_lose 19 = .ok (.aload_n 3, 1) := by decide +kernel
theorem dX7_lose_20 : decode cX7_lose 20 = .ok (.iload_n 2, 1) := by decide +kernel
theorem dX7_lose_21 : decode cX7_lose 21 = .ok (.putfield 120, 3) := by decide +kernel
theorem dX7_lose_24 : decode cX7_lose 24 = .ok (.iload 4, 2) := by decide +kernel
theorem dX7_lose_26 : decode cX7_lose 26 = .ok (.ireturn, 1) := by decide +kernel
theorem dX7_crash_0 : decode cX7_crash 0 = .ok (.aload_n 0, 1) := by decide +kernel
theorem dX7_crash_1 : decode cX7_crash 1 = .ok (.iload_n 1, 1) := by decide +kernel
theorem dX7_crash_2 : decode cX7_crash 2 = .ok (.invokevirtual 66, 3) := by decide +kernel
theorem dX7_crash_5 : decode cX7_crash 5 = .ok (.getfield 74, 3) := by decide +kernel
theorem dX7_crash_8 : decode cX7_crash 8 = .ok (.astore_n 2, 1) := by decide +kernel
theorem dX7_crash_9 : decode cX7_crash 9 = .ok (.aload_n 2, 1) := by decide +kernel
theorem dX7_crash_10 : decode cX7_crash 10 = .ok (.invokevirtual 123, 3) := by decide +kernel
theorem dX7_crash_13 : decode cX7_crash 13 = .ok (.istore_n 3, 1) := by decide +kernel
theorem dX7_crash_14 : decode cX7_crash 14 = .ok (.aload_n 2, 1) := by decide +kernel
theorem dX7_crash_15 : decode cX7_crash 15 = .ok (.invokevirtual 78, 3) := by decide +kernel
theorem dX7_crash_18 : decode cX7_crash 18 = .ok (.iload_n 3, 1) := by decide +kernel
theorem dX7_crash_19 : decode cX7_crash 19 = .ok (.ireturn, 1) := by decide +kernel
theorem dX7_subscriber_0 : decode cX7_subscriber 0 = .ok (.aload_n 0, 1) := by decide +kernel
theorem dX7_subscriber_1 : decode cX7_subscriber 1 = .ok (.iload_n 1, 1) := by decide +kernel
theorem dX7_subscriber_2 : decode cX7_subscriber 2 = .ok (.invokevirtual 87, 3) := by decide +kernel
theorem dX7_subscriber_5 : decode cX7_subscriber 5 = .ok (.aload_n 0, 1) := by decide +kernel
theorem dX7_subscriber_6 : decode cX7_subscriber 6 = .ok (.iload_n 2, 1) := by decide +kernel
theorem dX7_subscriber_7 : decode cX7_subscriber 7 = .ok (.invokevirtual 126, 3) := by decide +kernel
theorem dX7_subscriber_10 : decode cX7_subscriber 10 = .ok (.iload_n 3, 1) := by decide +kernel
theorem dX7_subscriber_11 : decode cX7_subscriber 11 = .ok (.iconst 0, 1) := by decide +kernel
theorem dX7_subscriber_12 : decode cX7_subscriber 12 = .ok (.bipush 63, 2) := by decide +kernel
theorem dX7_subscriber_14 : decode cX7_subscriber 14 = .ok (.invokestatic 44, 3) := by decide +kernel
theorem dX7_subscriber_17 : decode cX7_subscriber 17 = .ok (.aload_n 0, 1) := by decide +kernel
theorem dX7_subscriber_18 : decode cX7_subscriber 18 = .ok (.getfield 32, 3) := by decide +kernel
theorem dX7_subscriber_21 : decode cX7_subscriber 21 = .ok (.invokevirtual 48, 3) := by decide +kernel
theorem dX7_subscriber_24 : decode cX7_subscriber 24 = .ok (.bipush 10, 2) := by decide +kernel
theorem dX7_subscriber_26 : decode cX7_subscriber 26 = .ok (.invokestatic 96, 3) := by decide +kernel
theorem dX7_subscriber_29 : decode cX7_subscriber 29 = .ok (.new 56, 3) := by decide +kernel
theorem dX7_subscriber_32 : decode cX7_subscriber 32 = .ok (.dup, 1) := by decide +kernel
theorem dX7_subscriber_33 : decode cX7_subscriber 33 = .ok (.aload_n 0, 1) := by decide +kernel
theorem dX7_subscriber_34 : decode cX7_subscriber 34 = .ok (.getfield 32, 3) := by decide +kernel
theorem dX7_subscriber_37 : decode cX7_subscriber 37 = .ok (.invokevirtual 48, 3) := by decide +kernel
theorem dX7_subscriber_40 : decode cX7_subscriber 40 = .ok (.iload_n 1, 1) := by decide +kernel
theorem dX7_subscriber_41 : decode cX7_subscriber 41 = .ok (.iload_n 2, 1) := by decide +kernel
theorem dX7_subscriber_42 : decode cX7_subscriber 42 = .ok (.iload_n 3, 1) := by decide +kernel
theorem dX7_subscriber_43 : decode cX7_subscriber 43 = .ok (.invokespecial 129, 3) := by decide +kernel
theorem dX7_subscriber_46 : decode cX7_subscriber 46 = .ok (.astore 4, 2) := by decide +kernel
theorem dX7_subscriber_48 : decode cX7_subscriber 48 = .ok (.aload_n 0, 1) := by decide +kernel
theorem dX7_subscriber_49 : decode cX7_subscriber 49 = .ok (.getfield 32, 3) := by decide +kernel
theorem dX7_subscriber_52 : decode cX7_subscriber 52 = .ok (.aload 4, 2) := by decide +kernel
theorem dX7_subscriber_54 : decode cX7_subscriber 54 = .ok (.invokevirtual 104, 3) := by decide +kernel
theorem dX7_subscriber_57 : decode cX7_subscriber 57 = .ok (.pop, 1) := by decide +kernel
theorem dX7_subscriber_58 : decode cX7_subscriber 58 = .ok (.aload 4, 2) := by decide +kernel
theorem dX7_subscriber_60 : decode cX7_subscriber 60 = .ok (.getfield 132, 3) := by decide +kernel
theorem dX7_subscriber_63 : decode cX7_subscriber 63 = .ok (.ireturn, 1) := by decide +kernel
theorem dX7_move_0 : decode cX7_move 0 = .ok (.aload_n 0, 1) := by decide +kernel
theorem dX7_move_1 : decode cX7_move 1 = .ok (.iload_n 1, 1) := by decide +kernel
theorem dX7_move_2 : decode cX7_move 2 = .ok (.invokevirtual 135, 3) := by decide +kernel
theorem dX7_move_5 : decode cX7_move 5 = .ok (.astore_n 3, 1) := by decide +kernel
theorem dX7_move_6 : decode cX7_move 6 = .ok (.aload_n 0, 1) := by decide +kernel
theorem dX7_move_7 : decode cX7_move 7 = .ok (.iload_n 2, 1) := by decide +kernel
theorem dX7_move_8 : decode cX7_move 8 = .ok (.invokevirtual 126, 3) := by decide +kernel
theorem dX7_move_11 : decode cX7_move 11 = .ok (.aload_n 3, 1) := by decide +kernel
theorem dX7_move_12 : decode cX7_move 12 = .ok (.iload_n 2, 1) := by decide +kernel
theorem dX7_move_13 : decode cX7_move 13 = .ok (.putfield 58, 3) := by decide +kernel
theorem dX7_move_16 : decode cX7_move 16 = .ok (.aload_n 3, 1) := by decide +kernel
theorem dX7_move_17 : decode cX7_move 17 = .ok (.iconst 0, 1) := by decide +kernel
theorem dX7_move_18 : decode cX7_move 18 = .ok (.putfield 139, 3) := by decide +kernel
theorem dX7_move_21 : decode cX7_move 21 = .ok (.aload_n 0, 1) := by decide +kernel
theorem dX7_move_22 : decode cX7_move 22 = .ok (.aload_n 3, 1) := by decide +kernel
theorem dX7_move_23 : decode cX7_move 23 = .ok (.invokevirtual 62, 3) := by decide +kernel
theorem dX7_move_26 : decode cX7_move 26 = .ok (.aload_n 3, 1) := by decide +kernel
theorem dX7_move_27 : decode cX7_move 27 = .ok (.getfield 142, 3) := by decide +kernel
theorem dX7_move_30 : decode cX7_move 30 = .ok (.ireturn, 1) := by decide +kernel
theorem dX7_off_0 : decode cX7_off 0 = .ok (.aload_n 0, 1) := by decide +kernel
theorem dX7_off_1 : decode cX7_off 1 = .ok (.iload_n 1, 1) := by decide +kernel
theorem dX7_off_2 : decode cX7_off 2 = .ok (.invokevirtual 135, 3) := by decide +kernel
theorem dX7_off_5 : decode cX7_off 5 = .ok (.astore_n 2, 1) := by decide +kernel
theorem dX7_off_6 : decode cX7_off 6 = .ok (.aload_n 2, 1) := by decide +kernel
theorem dX7_off_7 : decode cX7_off 7 = .ok (.getfield 142, 3) := by decide +kernel
theorem dX7_off_10 : decode cX7_off 10 = .ok (.istore_n 3, 1) := by decide +kernel
theorem dX7_off_11 : decode cX7_off 11 = .ok (.aload_n 2, 1) := by decide +kernel
theorem dX7_off_12 : decode cX7_off 12 = .ok (.iconst (-1), 1) := by decide +kernel
theorem dX7_off_13 : decode cX7_off 13 = .ok (.putfield 142, 3) := by decide +kernel
theorem dX7_off_16 : decode cX7_off 16 = .ok (.iload_n 3, 1) := by decide +kernel
theorem dX7_off_17 : decode cX7_off 17 = .ok (.ireturn, 1) := by decide +kernel
theorem dX7_attach_0 : decode cX7_attach 0 = .ok (.aload_n 0, 1) := by decide +kernel
theorem dX7_attach_1 : decode cX7_attach 1 = .ok (.iload_n 1, 1) := by decide +kernel
theorem dX7_attach_2 : decode cX7_attach 2 = .ok (.invokevirtual 135, 3) := by decide +kernel
theorem dX7_attach_5 : decode cX7_attach 5 = .ok (.astore_n 3, 1) := by decide +kernel
theorem dX7_attach_6 : decode cX7_attach 6 = .ok (.aload_n 0, 1) := by decide +kernel
theorem dX7_attach_7 : decode cX7_attach 7 = .ok (.iload_n 2, 1) := by decide +kernel
theorem dX7_attach_8 : decode cX7_attach 8 = .ok (.invokevirtual 87, 3) := by decide +kernel
theorem dX7_attach_11 : decode cX7_attach 11 = .ok (.aload_n 3, 1) := by decide +kernel
theorem dX7_attach_12 : decode cX7_attach 12 = .ok (.getfield 142, 3) := by decide +kernel
theorem dX7_attach_15 : decode cX7_attach 15 = .ok (.iload_n 2, 1) := by decide +kernel
theorem dX7_attach_16 : decode cX7_attach 16 = .ok (.if_icmp .ne 13, 3) := by decide +kernel
theorem dX7_attach_19 : decode cX7_attach 19 = .ok (.new 145, 3) := by decide +kernel
theorem dX7_attach_22 : decode cX7_attach 22 = .ok (.dup, 1) := by decide +kernel
theorem dX7_attach_23 : decode cX7_attach 23 = .ok (.ldc 147, 2) := by decide +kernel
theorem dX7_attach_25 : decode cX7_attach 25 = .ok (.invokespecial 149, 3) := by decide +kernel
theorem dX7_attach_28 : decode cX7_attach 28 = .ok (.athrow, 1) := by decide +kernel
theorem dX7_attach_29 : decode cX7_attach 29 = .ok (.aload_n 0, 1) := by decide +kernel
theorem dX7_attach_30 : decode cX7_attach 30 = .ok (.aload_n 3, 1) := by decide +kernel
theorem dX7_attach_31 : decode cX7_attach 31 = .ok (.iload_n 2, 1) := by decide +kernel
theorem dX7_attach_32 : decode cX7_attach 32 = .ok (.invokevirtual 152, 3) := by decide +kernel
theorem dX7_attach_35 : decode cX7_attach 35 = .ok (.istore 4, 2) := by decide +kernel
theorem dX7_attach_37 : decode cX7_attach 37 = .ok (.iload 4, 2) := by decide +kernel
theorem dX7_attach_39 : decode cX7_attach 39 = .ok (.ifCond .eq 6, 3) := by decide +kernel
theorem dX7_attach_42 : decode cX7_attach 42 = .ok (.iload 4, 2) := by decide +kernel
theorem dX7_attach_44 : decode cX7_attach 44 = .ok (.ireturn, 1) := by decide +kernel
theorem dX7_attach_45 : decode cX7_attach 45 = .ok (.aload_n 0, 1) := by decide +kernel
theorem dX7_attach_46 : decode cX7_attach 46 = .ok (.aload_n 3, 1) := by decide +kernel
theorem dX7_attach_47 : decode cX7_attach 47 = .ok (.iload_n 2, 1) := by decide +kernel
theorem dX7_attach_48 : decode cX7_attach 48 = .ok (.invokevirtual 156, 3) := by decide +kernel
theorem dX7_attach_51 : decode cX7_attach 51 = .ok (.ifCond .eq 15, 3) := by decide +kernel
theorem dX7_attach_54 : decode cX7_attach 54 = .ok (.aload_n 3, 1) := by decide +kernel
theorem dX7_attach_55 : decode cX7_attach 55 = .ok (.dup, 1) := by decide +kernel
theorem dX7_attach_56 : decode cX7_attach 56 = .ok (.getfield 139, 3) := by decide +kernel
theorem dX7_attach_59 : decode cX7_attach 59 = .ok (.iconst 1, 1) := by decide +kernel
theorem dX7_attach_60 : decode cX7_attach 60 = .ok (.iadd, 1) := by decide +kernel
theorem dX7_attach_61 : decode cX7_attach 61 = .ok (.putfield 139, 3) := by decide +kernel
theorem dX7_attach_64 : decode cX7_attach 64 = .ok (.iconst 5, 1) := by decide +kernel
theorem dX7_attach_65 : decode cX7_attach 65 = .ok (.ireturn, 1) := by decide +kernel
theorem dX7_attach_66 : decode cX7_attach 66 = .ok (.aload_n 3, 1) := by decide +kernel
theorem dX7_attach_67 : decode cX7_attach 67 = .ok (.iload_n 2, 1) := by decide +kernel
theorem dX7_attach_68 : decode cX7_attach 68 = .ok (.putfield 142, 3) := by decide +kernel
theorem dX7_attach_71 : decode cX7_attach 71 = .ok (.aload_n 3, 1) := by decide +kernel
theorem dX7_attach_72 : decode cX7_attach 72 = .ok (.iconst 0, 1) := by decide +kernel
theorem dX7_attach_73 : decode cX7_attach 73 = .ok (.putfield 139, 3) := by decide +kernel
theorem dX7_attach_76 : decode cX7_attach 76 = .ok (.aload_n 0, 1) := by decide +kernel
theorem dX7_attach_77 : decode cX7_attach 77 = .ok (.aload_n 3, 1) := by decide +kernel
theorem dX7_attach_78 : decode cX7_attach 78 = .ok (.aload_n 0, 1) := by decide +kernel
theorem dX7_attach_79 : decode cX7_attach 79 = .ok (.getfield 160, 3) := by decide +kernel
theorem dX7_attach_82 : decode cX7_attach 82 = .ok (.invokevirtual 163, 3) := by decide +kernel
theorem dX7_attach_85 : decode cX7_attach 85 = .ok (.iconst 0, 1) := by decide +kernel
theorem dX7_attach_86 : decode cX7_attach 86 = .ok (.ireturn, 1) := by decide +kernel
theorem dX7_emergency_0 : decode cX7_emergency 0 = .ok (.aload_n 0, 1) := by decide +kernel
theorem dX7_emergency_1 : decode cX7_emergency 1 = .ok (.iload_n 1, 1) := by decide +kernel
theorem dX7_emergency_2 : decode cX7_emergency 2 = .ok (.invokevirtual 135, 3) := by decide +kernel
theorem dX7_emergency_5 : decode cX7_emergency 5 = .ok (.astore_n 2, 1) := by decide +kernel
theorem dX7_emergency_6 : decode cX7_emergency 6 = .ok (.aload_n 2, 1) := by decide +kernel
theorem dX7_emergency_7 : decode cX7_emergency 7 = .ok (.getfield 142, 3) := by decide +kernel
theorem dX7_emergency_10 : decode cX7_emergency 10 = .ok (.iconst (-1), 1) := by decide +kernel
theorem dX7_emergency_11 : decode cX7_emergency 11 = .ok (.if_icmp .eq 8, 3) := by decide +kernel
theorem dX7_emergency_14 : decode cX7_emergency 14 = .ok (.aload_n 2, 1) := by decide +kernel
theorem dX7_emergency_15 : decode cX7_emergency 15 = .ok (.getfield 142, 3) := by decide +kernel
theorem dX7_emergency_18 : decode cX7_emergency 18 = .ok (.ireturn, 1) := by decide +kernel
theorem dX7_emergency_19 : decode cX7_emergency 19 = .ok (.aload_n 0, 1) := by decide +kernel
theorem dX7_emergency_20 : decode cX7_emergency 20 = .ok (.aload_n 2, 1) := by decide +kernel
theorem dX7_emergency_21 : decode cX7_emergency 21 = .ok (.getfield 58, 3) := by decide +kernel
theorem dX7_emergency_24 : decode cX7_emergency 24 = .ok (.invokevirtual 40, 3) := by decide +kernel
theorem dX7_emergency_27 : decode cX7_emergency 27 = .ok (.istore_n 3, 1) := by decide +kernel
theorem dX7_emergency_28 : decode cX7_emergency 28 = .ok (.iconst 0, 1) := by decide +kernel
theorem dX7_emergency_29 : decode cX7_emergency 29 = .ok (.istore 4, 2) := by decide +kernel
theorem dX7_emergency_31 : decode cX7_emergency 31 = .ok (.iload 4, 2) := by decide +kernel
theorem dX7_emergency_33 : decode cX7_emergency 33 = .ok (.aload_n 0, 1) := by decide +kernel
theorem dX7_emergency_34 : decode cX7_emergency 34 = .ok (.getfield 15, 3) := by decide +kernel
theorem dX7_emergency_37 : decode cX7_emergency 37 = .ok (.arraylength, 1) := by decide +kernel
theorem dX7_emergency_38 : decode cX7_emergency 38 = .ok (.if_icmp .ge 34, 3) := by decide +kernel
theorem dX7_emergency_41 : decode cX7_emergency 41 = .ok (.iload_n 3, 1) := by decide +kernel
theorem dX7_emergency_42 : decode cX7_emergency 42 = .ok (.iload 4, 2) := by decide +kernel
theorem dX7_emergency_44 : decode cX7_emergency 44 = .ok (.invokestatic 167, 3) := by decide +kernel
theorem dX7_emergency_47 : decode cX7_emergency 47 = .ok (.ifCond .eq 19, 3) := by decide +kernel
theorem dX7_emergency_50 : decode cX7_emergency 50 = .ok (.aload_n 0, 1) := by decide +kernel
theorem dX7_emergency_51 : decode cX7_emergency 51 = .ok (.getfield 15, 3) := by decide +kernel
theorem dX7_emergency_54 : decode cX7_emergency 54 = .ok (.iload 4, 2) := by decide +kernel
theorem dX7_emergency_56 : decode cX7_emergency 56 = .ok (.aaload, 1) := by decide +kernel
theorem dX7_emergency_57 : decode cX7_emergency 57 = .ok (.getfield 70, 3) := by decide +kernel
theorem dX7_emergency_60 : decode cX7_emergency 60 = .ok (.ifCond .ne 6, 3) := by decide +kernel
theorem dX7_emergency_63 : decode cX7_emergency 63 = .ok (.iload 4, 2) := by decide +kernel
theorem dX7_emergency_65 : decode cX7_emergency 65 = .ok (.ireturn, 1) := by decide +kernel
theorem dX7_emergency_66 : decode cX7_emergency 66 = .ok (.iinc 4 1, 3) := by decide +kernel
theorem dX7_emergency_69 : decode cX7_emergency 69 = .ok (.goto (-38), 3) := by decide +kernel
theorem dX7_emergency_72 : decode cX7_emergency 72 = .ok (.iconst (-1), 1) := by decide +kernel
theorem dX7_emergency_73 : decode cX7_emergency 73 = .ok (.ireturn, 1) := by decide +kernel
theorem dX7_where_0 : decode cX7_where 0 = .ok (.aload_n 0, 1) := by decide +kernel
theorem dX7_where_1 : decode cX7_where 1 = .ok (.iload_n 1, 1) := by decide +kernel
theorem dX7_where_2 : decode cX7_where 2 = .ok (.invokevirtual 135, 3) := by decide +kernel
theorem dX7_where_5 : decode cX7_where 5 = .ok (.getfield 171, 3) := by decide +kernel
theorem dX7_where_8 : decode cX7_where 8 = .ok (.ireturn, 1) := by decide +kernel
theorem dX7_contact_0 : decode cX7_contact 0 = .ok (.aload_n 0, 1) := by decide +kernel
theorem dX7_contact_1 : decode cX7_contact 1 = .ok (.iload_n 1, 1) := by decide +kernel
theorem dX7_contact_2 : decode cX7_contact 2 = .ok (.invokevirtual 66, 3) := by decide +kernel
theorem dX7_contact_5 : decode cX7_contact 5 = .ok (.getfield 74, 3) := by decide +kernel
theorem dX7_contact_8 : decode cX7_contact 8 = .ok (.astore_n 3, 1) := by decide +kernel
theorem dX7_contact_9 : decode cX7_contact 9 = .ok (.aload_n 3, 1) := by decide +kernel
theorem dX7_contact_10 : decode cX7_contact 10 = .ok (.aload_n 0, 1) := by decide +kernel
theorem dX7_contact_11 : decode cX7_contact 11 = .ok (.iload_n 2, 1) := by decide +kernel
theorem dX7_contact_12 : decode cX7_contact 12 = .ok (.invokevirtual 135, 3) := by decide +kernel
theorem dX7_contact_15 : decode cX7_contact 15 = .ok (.getfield 132, 3) := by decide +kernel
theorem dX7_contact_18 : decode cX7_contact 18 = .ok (.invokevirtual 174, 3) := by decide +kernel
theorem dX7_contact_21 : decode cX7_contact 21 = .ok (.ireturn, 1) := by decide +kernel
theorem dX7_agrees_0 : decode cX7_agrees 0 = .ok (.aload_n 0, 1) := by decide +kernel
theorem dX7_agrees_1 : decode cX7_agrees 1 = .ok (.iload_n 1, 1) := by decide +kernel
theorem dX7_agrees_2 : decode cX7_agrees 2 = .ok (.invokevirtual 135, 3) := by decide +kernel
theorem dX7_agrees_5 : decode cX7_agrees 5 = .ok (.astore_n 2, 1) := by decide +kernel
theorem dX7_agrees_6 : decode cX7_agrees 6 = .ok (.iconst 0, 1) := by decide +kernel
theorem dX7_agrees_7 : decode cX7_agrees 7 = .ok (.istore_n 3, 1) := by decide +kernel
theorem dX7_agrees_8 : decode cX7_agrees 8 = .ok (.iload_n 3, 1) := by decide +kernel
theorem dX7_agrees_9 : decode cX7_agrees 9 = .ok (.aload_n 0, 1) := by decide +kernel
theorem dX7_agrees_10 : decode cX7_agrees 10 = .ok (.getfield 15, 3) := by decide +kernel
theorem dX7_agrees_13 : decode cX7_agrees 13 = .ok (.arraylength, 1) := by decide +kernel
theorem dX7_agrees_14 : decode cX7_agrees 14 = .ok (.if_icmp .ge 43, 3) := by decide +kernel
theorem dX7_agrees_17 : decode cX7_agrees 17 = .ok (.aload_n 0, 1) := by decide +kernel
theorem dX7_agrees_18 : decode cX7_agrees 18 = .ok (.getfield 15, 3) := by decide +kernel
theorem dX7_agrees_21 : decode cX7_agrees 21 = .ok (.iload_n 3, 1) := by decide +kernel
theorem dX7_agrees_22 : decode cX7_agrees 22 = .ok (.aaload, 1) := by decide +kernel
theorem dX7_agrees_23 : decode cX7_agrees 23 = .ok (.getfield 74, 3) := by decide +kernel
theorem dX7_agrees_26 : decode cX7_agrees 26 = .ok (.aload_n 2, 1) := by decide +kernel
theorem dX7_agrees_27 : decode cX7_agrees 27 = .ok (.getfield 132, 3) := by decide +kernel
theorem dX7_agrees_30 : decode cX7_agrees 30 = .ok (.invokevirtual 177, 3) := by decide +kernel
theorem dX7_agrees_33 : decode cX7_agrees 33 = .ok (.iload_n 3, 1) := by decide +kernel
theorem dX7_agrees_34 : decode cX7_agrees 34 = .ok (.aload_n 2, 1) := by decide +kernel
theorem dX7_agrees_35 : decode cX7_agrees 35 = .ok (.getfield 142, 3) := by decide +kernel
theorem dX7_agrees_38 : decode cX7_agrees 38 = .ok (.if_icmp .ne 7, 3) := by decide +kernel
theorem dX7_agrees_41 : decode cX7_agrees 41 = .ok (.iconst 1, 1) := by decide +kernel
theorem dX7_agrees_42 : decode cX7_agrees 42 = .ok (.goto 4, 3) := by decide +kernel
theorem dX7_agrees_45 : decode cX7_agrees 45 = .ok (.iconst 0, 1) := by decide +kernel
theorem dX7_agrees_46 : decode cX7_agrees 46 = .ok (.if_icmp .eq 5, 3) := by decide +kernel
theorem dX7_agrees_49 : decode cX7_agrees 49 = .ok (.iconst 0, 1) := by decide +kernel
theorem dX7_agrees_50 : decode cX7_agrees 50 = .ok (.ireturn, 1) := by decide +kernel
theorem dX7_agrees_51 : decode cX7_agrees 51 = .ok (.iinc 3 1, 3) := by decide +kernel
theorem dX7_agrees_54 : decode cX7_agrees 54 = .ok (.goto (-46), 3) := by decide +kernel
theorem dX7_agrees_57 : decode cX7_agrees 57 = .ok (.aload_n 2, 1) := by decide +kernel
theorem dX7_agrees_58 : decode cX7_agrees 58 = .ok (.getfield 142, 3) := by decide +kernel
theorem dX7_agrees_61 : decode cX7_agrees 61 = .ok (.iconst (-1), 1) := by decide +kernel
theorem dX7_agrees_62 : decode cX7_agrees 62 = .ok (.if_icmp .eq 14, 3) := by decide +kernel
theorem dX7_agrees_65 : decode cX7_agrees 65 = .ok (.aload_n 2, 1) := by decide +kernel
theorem dX7_agrees_66 : decode cX7_agrees 66 = .ok (.getfield 171, 3) := by decide +kernel
theorem dX7_agrees_69 : decode cX7_agrees 69 = .ok (.aload_n 2, 1) := by decide +kernel
theorem dX7_agrees_70 : decode cX7_agrees 70 = .ok (.getfield 142, 3) := by decide +kernel
theorem dX7_agrees_73 : decode cX7_agrees 73 = .ok (.if_icmp .ne 7, 3) := by decide +kernel
theorem dX7_agrees_76 : decode cX7_agrees 76 = .ok (.iconst 1, 1) := by decide +kernel
theorem dX7_agrees_77 : decode cX7_agrees 77 = .ok (.goto 4, 3) := by decide +kernel
theorem dX7_agrees_80 : decode cX7_agrees 80 = .ok (.iconst 0, 1) := by decide +kernel
theorem dX7_agrees_81 : decode cX7_agrees 81 = .ok (.ireturn, 1) := by decide +kernel
theorem dX7_subscriberIs_0 : decode cX7_subscriberIs 0 = .ok (.aload_n 0, 1) := by decide +kernel
theorem dX7_subscriberIs_1 : decode cX7_subscriberIs 1 = .ok (.iload_n 1, 1) := by decide +kernel
theorem dX7_subscriberIs_2 : decode cX7_subscriberIs 2 = .ok (.invokevirtual 135, 3) := by decide +kernel
theorem dX7_subscriberIs_5 : decode cX7_subscriberIs 5 = .ok (.astore_n 3, 1) := by decide +kernel
theorem dX7_subscriberIs_6 : decode cX7_subscriberIs 6 = .ok (.iload_n 2, 1) := by decide +kernel
theorem dX7_subscriberIs_7 : decode cX7_subscriberIs 7 = .ok (.tableswitch 84 0 6 #[41, 46, 51, 56, 61, 66, 79], 41) := by decide +kernel
theorem dX7_subscriberIs_48 : decode cX7_subscriberIs 48 = .ok (.aload_n 3, 1) := by decide +kernel
theorem dX7_subscriberIs_49 : decode cX7_subscriberIs 49 = .ok (.getfield 142, 3) := by decide +kernel
theorem dX7_subscriberIs_52 : decode cX7_subscriberIs 52 = .ok (.ireturn, 1) := by decide +kernel
theorem dX7_subscriberIs_53 : decode cX7_subscriberIs 53 = .ok (.aload_n 3, 1) := by decide +kernel
theorem dX7_subscriberIs_54 : decode cX7_subscriberIs 54 = .ok (.getfield 58, 3) := by decide +kernel
theorem dX7_subscriberIs_57 : decode cX7_subscriberIs 57 = .ok (.ireturn, 1) := by decide +kernel
theorem dX7_subscriberIs_58 : decode cX7_subscriberIs 58 = .ok (.aload_n 3, 1) := by decide +kernel
theorem dX7_subscriberIs_59 : decode cX7_subscriberIs 59 = .ok (.getfield 139, 3) := by decide +kernel
theorem dX7_subscriberIs_62 : decode cX7_subscriberIs 62 = .ok (.ireturn, 1) := by decide +kernel
theorem dX7_subscriberIs_63 : decode cX7_subscriberIs 63 = .ok (.aload_n 3, 1) := by decide +kernel
theorem dX7_subscriberIs_64 : decode cX7_subscriberIs 64 = .ok (.getfield 181, 3) := by decide +kernel
theorem dX7_subscriberIs_67 : decode cX7_subscriberIs 67 = .ok (.ireturn, 1) := by decide +kernel
theorem dX7_subscriberIs_68 : decode cX7_subscriberIs 68 = .ok (.aload_n 3, 1) := by decide +kernel
theorem dX7_subscriberIs_69 : decode cX7_subscriberIs 69 = .ok (.getfield 184, 3) := by decide +kernel
theorem dX7_subscriberIs_72 : decode cX7_subscriberIs 72 = .ok (.ireturn, 1) := by decide +kernel
theorem dX7_subscriberIs_73 : decode cX7_subscriberIs 73 = .ok (.aload_n 3, 1) := by decide +kernel
theorem dX7_subscriberIs_74 : decode cX7_subscriberIs 74 = .ok (.invokevirtual 187, 3) := by decide +kernel
theorem dX7_subscriberIs_77 : decode cX7_subscriberIs 77 = .ok (.ifCond .eq 7, 3) := by decide +kernel
theorem dX7_subscriberIs_80 : decode cX7_subscriberIs 80 = .ok (.iconst 1, 1) := by decide +kernel
theorem dX7_subscriberIs_81 : decode cX7_subscriberIs 81 = .ok (.goto 4, 3) := by decide +kernel
theorem dX7_subscriberIs_84 : decode cX7_subscriberIs 84 = .ok (.iconst 0, 1) := by decide +kernel
theorem dX7_subscriberIs_85 : decode cX7_subscriberIs 85 = .ok (.ireturn, 1) := by decide +kernel
theorem dX7_subscriberIs_86 : decode cX7_subscriberIs 86 = .ok (.aload_n 3, 1) := by decide +kernel
theorem dX7_subscriberIs_87 : decode cX7_subscriberIs 87 = .ok (.getfield 191, 3) := by decide +kernel
theorem dX7_subscriberIs_90 : decode cX7_subscriberIs 90 = .ok (.ireturn, 1) := by decide +kernel
theorem dX7_subscriberIs_91 : decode cX7_subscriberIs 91 = .ok (.new 194, 3) := by decide +kernel
theorem dX7_subscriberIs_94 : decode cX7_subscriberIs 94 = .ok (.dup, 1) := by decide +kernel
theorem dX7_subscriberIs_95 : decode cX7_subscriberIs 95 = .ok (.ldc 196, 2) := by decide +kernel
theorem dX7_subscriberIs_97 : decode cX7_subscriberIs 97 = .ok (.invokespecial 198, 3) := by decide +kernel
theorem dX7_subscriberIs_100 : decode cX7_subscriberIs 100 = .ok (.athrow, 1) := by decide +kernel
theorem dX7_cap_0 : decode cX7_cap 0 = .ok (.aload_n 0, 1) := by decide +kernel
theorem dX7_cap_1 : decode cX7_cap 1 = .ok (.iload_n 1, 1) := by decide +kernel
theorem dX7_cap_2 : decode cX7_cap 2 = .ok (.invokevirtual 135, 3) := by decide +kernel
theorem dX7_cap_5 : decode cX7_cap 5 = .ok (.astore 4, 2) := by decide +kernel
theorem dX7_cap_7 : decode cX7_cap 7 = .ok (.iload_n 2, 1) := by decide +kernel
theorem dX7_cap_8 : decode cX7_cap 8 = .ok (.iconst 0, 1) := by decide +kernel
theorem dX7_cap_9 : decode cX7_cap 9 = .ok (.ldc 199, 2) := by decide +kernel
theorem dX7_cap_11 : decode cX7_cap 11 = .ok (.invokestatic 44, 3) := by decide +kernel
theorem dX7_cap_14 : decode cX7_cap 14 = .ok (.aload 4, 2) := by decide +kernel
theorem dX7_cap_16 : decode cX7_cap 16 = .ok (.iload_n 2, 1) := by decide +kernel
theorem dX7_cap_17 : decode cX7_cap 17 = .ok (.putfield 191, 3) := by decide +kernel
theorem dX7_cap_20 : decode cX7_cap 20 = .ok (.aload 4, 2) := by decide +kernel
theorem dX7_cap_22 : decode cX7_cap 22 = .ok (.iload_n 3, 1) := by decide +kernel
theorem dX7_cap_23 : decode cX7_cap 23 = .ok (.putfield 200, 3) := by decide +kernel
theorem dX7_cap_26 : decode cX7_cap 26 = .ok (.return_, 1) := by decide +kernel
theorem dX7_call_0 : decode cX7_call 0 = .ok (.aload_n 0, 1) := by decide +kernel
theorem dX7_call_1 : decode cX7_call 1 = .ok (.iload_n 1, 1) := by decide +kernel
theorem dX7_call_2 : decode cX7_call 2 = .ok (.invokevirtual 135, 3) := by decide +kernel
theorem dX7_call_5 : decode cX7_call 5 = .ok (.astore 4, 2) := by decide +kernel
theorem dX7_call_7 : decode cX7_call 7 = .ok (.aload_n 0, 1) := by decide +kernel
theorem dX7_call_8 : decode cX7_call 8 = .ok (.iload_n 2, 1) := by decide +kernel
theorem dX7_call_9 : decode cX7_call 9 = .ok (.invokevirtual 135, 3) := by decide +kernel
theorem dX7_call_12 : decode cX7_call 12 = .ok (.astore 5, 2) := by decide +kernel
theorem dX7_call_14 : decode cX7_call 14 = .ok (.iload_n 1, 1) := by decide +kernel
theorem dX7_call_15 : decode cX7_call 15 = .ok (.iload_n 2, 1) := by decide +kernel
theorem dX7_call_16 : decode cX7_call 16 = .ok (.invokestatic 90, 3) := by decide +kernel
theorem dX7_call_19 : decode cX7_call 19 = .ok (.iload_n 3, 1) := by decide +kernel
theorem dX7_call_20 : decode cX7_call 20 = .ok (.iconst 1, 1) := by decide +kernel
theorem dX7_call_21 : decode cX7_call 21 = .ok (.ldc 203, 2) := by decide +kernel
theorem dX7_call_23 : decode cX7_call 23 = .ok (.invokestatic 44, 3) := by decide +kernel
theorem dX7_call_26 : decode cX7_call 26 = .ok (.aload_n 0, 1) := by decide +kernel
theorem dX7_call_27 : decode cX7_call 27 = .ok (.getfield 35, 3) := by decide +kernel
theorem dX7_call_30 : decode cX7_call 30 = .ok (.invokevirtual 48, 3) := by decide +kernel
theorem dX7_call_33 : decode cX7_call 33 = .ok (.sipush 200, 3) := by decide +kernel
theorem dX7_call_36 : decode cX7_call 36 = .ok (.invokestatic 96, 3) := by decide +kernel
theorem dX7_call_39 : decode cX7_call 39 = .ok (.aload_n 0, 1) := by decide +kernel
theorem dX7_call_40 : decode cX7_call 40 = .ok (.aload 4, 2) := by decide +kernel
theorem dX7_call_42 : decode cX7_call 42 = .ok (.aload 5, 2) := by decide +kernel
theorem dX7_call_44 : decode cX7_call 44 = .ok (.invokevirtual 204, 3) := by decide +kernel
theorem dX7_call_47 : decode cX7_call 47 = .ok (.istore 6, 2) := by decide +kernel
theorem dX7_call_49 : decode cX7_call 49 = .ok (.iload 6, 2) := by decide +kernel
theorem dX7_call_51 : decode cX7_call 51 = .ok (.ifCond .eq 6, 3) := by decide +kernel
theorem dX7_call_54 : decode cX7_call 54 = .ok (.iload 6, 2) := by decide +kernel
theorem dX7_call_56 : decode cX7_call 56 = .ok (.ireturn, 1) := by decide +kernel
theorem dX7_call_57 : decode cX7_call 57 = .ok (.iload_n 3, 1) := by decide +kernel
theorem dX7_call_58 : decode cX7_call 58 = .ok (.bipush 59, 2) := by decide +kernel
theorem dX7_call_60 : decode cX7_call 60 = .ok (.iadd, 1) := by decide +kernel
theorem dX7_call_61 : decode cX7_call 61 = .ok (.bipush 60, 2) := by decide +kernel
theorem dX7_call_63 : decode cX7_call 63 = .ok (.idiv, 1) := by decide +kernel
theorem dX7_call_64 : decode cX7_call 64 = .ok (.istore 7, 2) := by decide +kernel
theorem dX7_call_66 : decode cX7_call 66 = .ok (.iload 7, 2) := by decide +kernel
theorem dX7_call_68 : decode cX7_call 68 = .ok (.aload_n 0, 1) := by decide +kernel
theorem dX7_call_69 : decode cX7_call 69 = .ok (.aload 4, 2) := by decide +kernel
theorem dX7_call_71 : decode cX7_call 71 = .ok (.invokevirtual 208, 3) := by decide +kernel
theorem dX7_call_74 : decode cX7_call 74 = .ok (.imul, 1) := by decide +kernel
theorem dX7_call_75 : decode cX7_call 75 = .ok (.istore 8, 2) := by decide +kernel
theorem dX7_call_77 : decode cX7_call 77 = .ok (.iload 7, 2) := by decide +kernel
theorem dX7_call_79 : decode cX7_call 79 = .ok (.aload_n 0, 1) := by decide +kernel
theorem dX7_call_80 : decode cX7_call 80 = .ok (.aload 5, 2) := by decide +kernel
theorem dX7_call_82 : decode cX7_call 82 = .ok (.invokevirtual 212, 3) := by decide +kernel
theorem dX7_call_85 : decode cX7_call 85 = .ok (.imul, 1) := by decide +kernel
theorem dX7_call_86 : decode cX7_call 86 = .ok (.istore 9, 2) := by decide +kernel
theorem dX7_call_88 : decode cX7_call 88 = .ok (.aload 4, 2) := by decide +kernel
theorem dX7_call_90 : decode cX7_call 90 = .ok (.iload 8, 2) := by decide +kernel
theorem dX7_call_92 : decode cX7_call 92 = .ok (.invokevirtual 215, 3) := by decide +kernel
theorem dX7_call_95 : decode cX7_call 95 = .ok (.ifCond .eq 5, 3) := by decide +kernel
theorem dX7_call_98 : decode cX7_call 98 = .ok (.iconst 5, 1) := by decide +kernel
theorem dX7_call_99 : decode cX7_call 99 = .ok (.ireturn, 1) := by decide +kernel
theorem dX7_call_100 : decode cX7_call 100 = .ok (.aload 5, 2) := by decide +kernel
theorem dX7_call_102 : decode cX7_call 102 = .ok (.iload 9, 2) := by decide +kernel
theorem dX7_call_104 : decode cX7_call 104 = .ok (.invokevirtual 215, 3) := by decide +kernel
theorem dX7_call_107 : decode cX7_call 107 = .ok (.ifCond .eq 6, 3) := by decide +kernel
theorem dX7_call_110 : decode cX7_call 110 = .ok (.bipush 6, 2) := by decide +kernel
theorem dX7_call_112 : decode cX7_call 112 = .ok (.ireturn, 1) := by decide +kernel
theorem dX7_call_113 : decode cX7_call 113 = .ok (.aload_n 0, 1) := by decide +kernel
theorem dX7_call_114 : decode cX7_call 114 = .ok (.getfield 35, 3) := by decide +kernel
theorem dX7_call_117 : decode cX7_call 117 = .ok (.new 218, 3) := by decide +kernel
theorem dX7_call_120 : decode cX7_call 120 = .ok (.dup, 1) := by decide +kernel
theorem dX7_call_121 : decode cX7_call 121 = .ok (.iload_n 1, 1) := by decide +kernel
theorem dX7_call_122 : decode cX7_call 122 = .ok (.iload 8, 2) := by decide +kernel
theorem dX7_call_124 : decode cX7_call 124 = .ok (.iload_n 2, 1) := by decide +kernel
theorem dX7_call_125 : decode cX7_call 125 = .ok (.iload 9, 2) := by decide +kernel
theorem dX7_call_127 : decode cX7_call 127 = .ok (.invokespecial 220, 3) := by decide +kernel
theorem dX7_call_130 : decode cX7_call 130 = .ok (.invokevirtual 104, 3) := by decide +kernel
theorem dX7_call_133 : decode cX7_call 133 = .ok (.pop, 1) := by decide +kernel
theorem dX7_call_134 : decode cX7_call 134 = .ok (.aload_n 0, 1) := by decide +kernel
theorem dX7_call_135 : decode cX7_call 135 = .ok (.aload 4, 2) := by decide +kernel
theorem dX7_call_137 : decode cX7_call 137 = .ok (.iload 8, 2) := by decide +kernel
theorem dX7_call_139 : decode cX7_call 139 = .ok (.iload 7, 2) := by decide +kernel
theorem dX7_call_141 : decode cX7_call 141 = .ok (.invokevirtual 221, 3) := by decide +kernel
theorem dX7_call_144 : decode cX7_call 144 = .ok (.aload_n 0, 1) := by decide +kernel
theorem dX7_call_145 : decode cX7_call 145 = .ok (.aload 5, 2) := by decide +kernel
theorem dX7_call_147 : decode cX7_call 147 = .ok (.iload 9, 2) := by decide +kernel
theorem dX7_call_149 : decode cX7_call 149 = .ok (.iload 7, 2) := by decide +kernel
theorem dX7_call_151 : decode cX7_call 151 = .ok (.invokevirtual 221, 3) := by decide +kernel
theorem dX7_call_154 : decode cX7_call 154 = .ok (.iconst 0, 1) := by decide +kernel
theorem dX7_call_155 : decode cX7_call 155 = .ok (.ireturn, 1) := by decide +kernel
theorem dX7_paidAnew_0 : decode cX7_paidAnew 0 = .ok (.aload_n 0, 1) := by decide +kernel
theorem dX7_paidAnew_1 : decode cX7_paidAnew 1 = .ok (.iload_n 1, 1) := by decide +kernel
theorem dX7_paidAnew_2 : decode cX7_paidAnew 2 = .ok (.invokevirtual 135, 3) := by decide +kernel
theorem dX7_paidAnew_5 : decode cX7_paidAnew 5 = .ok (.getfield 132, 3) := by decide +kernel
theorem dX7_paidAnew_8 : decode cX7_paidAnew 8 = .ok (.istore_n 2, 1) := by decide +kernel
theorem dX7_paidAnew_9 : decode cX7_paidAnew 9 = .ok (.iconst 0, 1) := by decide +kernel
theorem dX7_paidAnew_10 : decode cX7_paidAnew 10 = .ok (.istore_n 3, 1) := by decide +kernel
theorem dX7_paidAnew_11 : decode cX7_paidAnew 11 = .ok (.iconst 0, 1) := by decide +kernel
theorem dX7_paidAnew_12 : decode cX7_paidAnew 12 = .ok (.istore 4, 2) := by decide +kernel
theorem dX7_paidAnew_14 : decode cX7_paidAnew 14 = .ok (.iload 4, 2) := by decide +kernel
theorem dX7_paidAnew_16 : decode cX7_paidAnew 16 = .ok (.aload_n 0, 1) := by decide +kernel
theorem dX7_paidAnew_17 : decode cX7_paidAnew 17 = .ok (.getfield 35, 3) := by decide +kernel
theorem dX7_paidAnew_20 : decode cX7_paidAnew 20 = .ok (.invokevirtual 48, 3) := by decide +kernel
theorem dX7_paidAnew_23 : decode cX7_paidAnew 23 = .ok (.if_icmp .ge 28, 3) := by decide +kernel
theorem dX7_paidAnew_26 : decode cX7_paidAnew 26 = .ok (.iload_n 3, 1) := by decide +kernel
theorem dX7_paidAnew_27 : decode cX7_paidAnew 27 = .ok (.aload_n 0, 1) := by decide +kernel
theorem dX7_paidAnew_28 : decode cX7_paidAnew 28 = .ok (.getfield 35, 3) := by decide +kernel
theorem dX7_paidAnew_31 : decode cX7_paidAnew 31 = .ok (.iload 4, 2) := by decide +kernel
theorem dX7_paidAnew_33 : decode cX7_paidAnew 33 = .ok (.invokevirtual 52, 3) := by decide +kernel
theorem dX7_paidAnew_36 : decode cX7_paidAnew 36 = .ok (.checkcast 218, 3) := by decide +kernel
theorem dX7_paidAnew_39 : decode cX7_paidAnew 39 = .ok (.iload_n 2, 1) := by decide +kernel
theorem dX7_paidAnew_40 : decode cX7_paidAnew 40 = .ok (.invokevirtual 225, 3) := by decide +kernel
theorem dX7_paidAnew_43 : decode cX7_paidAnew 43 = .ok (.iadd, 1) := by decide +kernel
theorem dX7_paidAnew_44 : decode cX7_paidAnew 44 = .ok (.istore_n 3, 1) := by decide +kernel
theorem dX7_paidAnew_45 : decode cX7_paidAnew 45 = .ok (.iinc 4 1, 3) := by decide +kernel
theorem dX7_paidAnew_48 : decode cX7_paidAnew 48 = .ok (.goto (-34), 3) := by decide +kernel
theorem dX7_paidAnew_51 : decode cX7_paidAnew 51 = .ok (.iload_n 3, 1) := by decide +kernel
theorem dX7_paidAnew_52 : decode cX7_paidAnew 52 = .ok (.ireturn, 1) := by decide +kernel
theorem dX7_file_0 : decode cX7_file 0 = .ok (.aload_n 0, 1) := by decide +kernel
theorem dX7_file_1 : decode cX7_file 1 = .ok (.iload_n 1, 1) := by decide +kernel
theorem dX7_file_2 : decode cX7_file 2 = .ok (.iload_n 2, 1) := by decide +kernel
theorem dX7_file_3 : decode cX7_file 3 = .ok (.invokevirtual 228, 3) := by decide +kernel
theorem dX7_file_6 : decode cX7_file 6 = .ok (.astore_n 3, 1) := by decide +kernel
theorem dX7_file_7 : decode cX7_file 7 = .ok (.aload_n 3, 1) := by decide +kernel
theorem dX7_file_8 : decode cX7_file 8 = .ok (.invokevirtual 232, 3) := by decide +kernel
theorem dX7_file_11 : decode cX7_file 11 = .ok (.ifCond .ne 13, 3) := by decide +kernel
theorem dX7_file_14 : decode cX7_file 14 = .ok (.new 145, 3) := by decide +kernel
theorem dX7_file_17 : decode cX7_file 17 = .ok (.dup, 1) := by decide +kernel
theorem dX7_file_18 : decode cX7_file 18 = .ok (.ldc 235, 2) := by decide +kernel
theorem dX7_file_20 : decode cX7_file 20 = .ok (.invokespecial 149, 3) := by decide +kernel
theorem dX7_file_23 : decode cX7_file 23 = .ok (.athrow, 1) := by decide +kernel
theorem dX7_file_24 : decode cX7_file 24 = .ok (.aload_n 3, 1) := by decide +kernel
theorem dX7_file_25 : decode cX7_file 25 = .ok (.getfield 237, 3) := by decide +kernel
theorem dX7_file_28 : decode cX7_file 28 = .ok (.bipush 20, 2) := by decide +kernel
theorem dX7_file_30 : decode cX7_file 30 = .ok (.invokestatic 96, 3) := by decide +kernel
theorem dX7_file_33 : decode cX7_file 33 = .ok (.aload_n 3, 1) := by decide +kernel
theorem dX7_file_34 : decode cX7_file 34 = .ok (.invokevirtual 240, 3) := by decide +kernel
theorem dX7_file_37 : decode cX7_file 37 = .ok (.ireturn, 1) := by decide +kernel
theorem dX7_deliver_0 : decode cX7_deliver 0 = .ok (.aload_n 0, 1) := by decide +kernel
theorem dX7_deliver_1 : decode cX7_deliver 1 = .ok (.iload_n 1, 1) := by decide +kernel
theorem dX7_deliver_2 : decode cX7_deliver 2 = .ok (.iload_n 2, 1) := by decide +kernel
theorem dX7_deliver_3 : decode cX7_deliver 3 = .ok (.invokevirtual 228, 3) := by decide +kernel
theorem dX7_deliver_6 : decode cX7_deliver 6 = .ok (.astore 4, 2) := by decide +kernel
theorem dX7_deliver_8 : decode cX7_deliver 8 = .ok (.iload_n 3, 1) := by decide +kernel
theorem dX7_deliver_9 : decode cX7_deliver 9 = .ok (.ifCond .lt 12, 3) := by decide +kernel
theorem dX7_deliver_12 : decode cX7_deliver 12 = .ok (.iload_n 3, 1) := by decide +kernel
theorem dX7_deliver_13 : decode cX7_deliver 13 = .ok (.aload 4, 2) := by decide +kernel
theorem dX7_deliver_15 : decode cX7_deliver 15 = .ok (.getfield 237, 3) := by decide +kernel
theorem dX7_deliver_18 : decode cX7_deliver 18 = .ok (.if_icmp .lt 13, 3) := by decide +kernel
theorem dX7_deliver_21 : decode cX7_deliver 21 = .ok (.new 243, 3) := by decide +kernel
theorem dX7_deliver_24 : decode cX7_deliver 24 = .ok (.dup, 1) := by decide +kernel
theorem dX7_deliver_25 : decode cX7_deliver 25 = .ok (.ldc 245, 2) := by decide +kernel
theorem dX7_deliver_27 : decode cX7_deliver 27 = .ok (.invokespecial 247, 3) := by decide +kernel
theorem dX7_deliver_30 : decode cX7_deliver 30 = .ok (.athrow, 1) := by decide +kernel
theorem dX7_deliver_31 : decode cX7_deliver 31 = .ok (.iload_n 3, 1) := by decide +kernel
theorem dX7_deliver_32 : decode cX7_deliver 32 = .ok (.aload 4, 2) := by decide +kernel
theorem dX7_deliver_34 : decode cX7_deliver 34 = .ok (.getfield 248, 3) := by decide +kernel
theorem dX7_deliver_37 : decode cX7_deliver 37 = .ok (.if_icmp .ge 5, 3) := by decide +kernel
theorem dX7_deliver_40 : decode cX7_deliver 40 = .ok (.iconst (-1), 1) := by decide +kernel
theorem dX7_deliver_41 : decode cX7_deliver 41 = .ok (.ireturn, 1) := by decide +kernel
theorem dX7_deliver_42 : decode cX7_deliver 42 = .ok (.iload_n 3, 1) := by decide +kernel
theorem dX7_deliver_43 : decode cX7_deliver 43 = .ok (.aload 4, 2) := by decide +kernel
theorem dX7_deliver_45 : decode cX7_deliver 45 = .ok (.getfield 248, 3) := by decide +kernel
theorem dX7_deliver_48 : decode cX7_deliver 48 = .ok (.if_icmp .le 6, 3) := by decide +kernel
theorem dX7_deliver_51 : decode cX7_deliver 51 = .ok (.bipush (-2), 2) := by decide +kernel
theorem dX7_deliver_53 : decode cX7_deliver 53 = .ok (.ireturn, 1) := by decide +kernel
theorem dX7_deliver_54 : decode cX7_deliver 54 = .ok (.aload 4, 2) := by decide +kernel
theorem dX7_deliver_56 : decode cX7_deliver 56 = .ok (.aload_n 0, 1) := by decide +kernel
theorem dX7_deliver_57 : decode cX7_deliver 57 = .ok (.getfield 160, 3) := by decide +kernel
theorem dX7_deliver_60 : decode cX7_deliver 60 = .ok (.invokevirtual 251, 3) := by decide +kernel
theorem dX7_deliver_63 : decode cX7_deliver 63 = .ok (.ireturn, 1) := by decide +kernel
theorem dX7_owes_0 : decode cX7_owes 0 = .ok (.aload_n 0, 1) := by decide +kernel
theorem dX7_owes_1 : decode cX7_owes 1 = .ok (.iload_n 2, 1) := by decide +kernel
theorem dX7_owes_2 : decode cX7_owes 2 = .ok (.iload_n 1, 1) := by decide +kernel
theorem dX7_owes_3 : decode cX7_owes 3 = .ok (.invokevirtual 228, 3) := by decide +kernel
theorem dX7_owes_6 : decode cX7_owes 6 = .ok (.invokevirtual 254, 3) := by decide +kernel
theorem dX7_owes_9 : decode cX7_owes 9 = .ok (.ireturn, 1) := by decide +kernel
theorem dX7_owesAnew_0 : decode cX7_owesAnew 0 = .ok (.aload_n 0, 1) := by decide +kernel
theorem dX7_owesAnew_1 : decode cX7_owesAnew 1 = .ok (.iload_n 2, 1) := by decide +kernel
theorem dX7_owesAnew_2 : decode cX7_owesAnew 2 = .ok (.iload_n 1, 1) := by decide +kernel
theorem dX7_owesAnew_3 : decode cX7_owesAnew 3 = .ok (.invokevirtual 228, 3) := by decide +kernel
theorem dX7_owesAnew_6 : decode cX7_owesAnew 6 = .ok (.invokevirtual 257, 3) := by decide +kernel
theorem dX7_owesAnew_9 : decode cX7_owesAnew 9 = .ok (.ireturn, 1) := by decide +kernel
theorem dX7_recorded_0 : decode cX7_recorded 0 = .ok (.aload_n 0, 1) := by decide +kernel
theorem dX7_recorded_1 : decode cX7_recorded 1 = .ok (.iload_n 1, 1) := by decide +kernel
theorem dX7_recorded_2 : decode cX7_recorded 2 = .ok (.iload_n 2, 1) := by decide +kernel
theorem dX7_recorded_3 : decode cX7_recorded 3 = .ok (.invokevirtual 228, 3) := by decide +kernel
theorem dX7_recorded_6 : decode cX7_recorded 6 = .ok (.astore 4, 2) := by decide +kernel
theorem dX7_recorded_8 : decode cX7_recorded 8 = .ok (.iload_n 3, 1) := by decide +kernel
theorem dX7_recorded_9 : decode cX7_recorded 9 = .ok (.iconst 0, 1) := by decide +kernel
theorem dX7_recorded_10 : decode cX7_recorded 10 = .ok (.iconst 3, 1) := by decide +kernel
theorem dX7_recorded_11 : decode cX7_recorded 11 = .ok (.invokestatic 44, 3) := by decide +kernel
theorem dX7_recorded_14 : decode cX7_recorded 14 = .ok (.aload 4, 2) := by decide +kernel
theorem dX7_recorded_16 : decode cX7_recorded 16 = .ok (.iload_n 3, 1) := by decide +kernel
theorem dX7_recorded_17 : decode cX7_recorded 17 = .ok (.invokevirtual 260, 3) := by decide +kernel
theorem dX7_recorded_20 : decode cX7_recorded 20 = .ok (.ireturn, 1) := by decide +kernel
theorem dX7_pass_0 : decode cX7_pass 0 = .ok (.iload_n 1, 1) := by decide +kernel
theorem dX7_pass_1 : decode cX7_pass 1 = .ok (.iconst 1, 1) := by decide +kernel
theorem dX7_pass_2 : decode cX7_pass 2 = .ok (.ldc_w 263, 3) := by decide +kernel
theorem dX7_pass_5 : decode cX7_pass 5 = .ok (.invokestatic 44, 3) := by decide +kernel
theorem dX7_pass_8 : decode cX7_pass 8 = .ok (.iload_n 1, 1) := by decide +kernel
theorem dX7_pass_9 : decode cX7_pass 9 = .ok (.ldc 94, 2) := by decide +kernel
theorem dX7_pass_11 : decode cX7_pass 11 = .ok (.aload_n 0, 1) := by decide +kernel
theorem dX7_pass_12 : decode cX7_pass 12 = .ok (.getfield 160, 3) := by decide +kernel
theorem dX7_pass_15 : decode cX7_pass 15 = .ok (.isub, 1) := by decide +kernel
theorem dX7_pass_16 : decode cX7_pass 16 = .ok (.if_icmp .le 14, 3) := by decide +kernel
theorem dX7_pass_19 : decode cX7_pass 19 = .ok (.new 145, 3) := by decide +kernel
theorem dX7_pass_22 : decode cX7_pass 22 = .ok (.dup, 1) := by decide +kernel
theorem dX7_pass_23 : decode cX7_pass 23 = .ok (.ldc_w 264, 3) := by decide +kernel
theorem dX7_pass_26 : decode cX7_pass 26 = .ok (.invokespecial 149, 3) := by decide +kernel
theorem dX7_pass_29 : decode cX7_pass 29 = .ok (.athrow, 1) := by decide +kernel
theorem dX7_pass_30 : decode cX7_pass 30 = .ok (.aload_n 0, 1) := by decide +kernel
theorem dX7_pass_31 : decode cX7_pass 31 = .ok (.getfield 160, 3) := by decide +kernel
theorem dX7_pass_34 : decode cX7_pass 34 = .ok (.iload_n 1, 1) := by decide +kernel
theorem dX7_pass_35 : decode cX7_pass 35 = .ok (.iadd, 1) := by decide +kernel
theorem dX7_pass_36 : decode cX7_pass 36 = .ok (.istore_n 2, 1) := by decide +kernel
theorem dX7_pass_37 : decode cX7_pass 37 = .ok (.aload_n 0, 1) := by decide +kernel
theorem dX7_pass_38 : decode cX7_pass 38 = .ok (.aload_n 0, 1) := by decide +kernel
theorem dX7_pass_39 : decode cX7_pass 39 = .ok (.getfield 160, 3) := by decide +kernel
theorem dX7_pass_42 : decode cX7_pass 42 = .ok (.bipush 60, 2) := by decide +kernel
theorem dX7_pass_44 : decode cX7_pass 44 = .ok (.idiv, 1) := by decide +kernel
theorem dX7_pass_45 : decode cX7_pass 45 = .ok (.iconst 1, 1) := by decide +kernel
theorem dX7_pass_46 : decode cX7_pass 46 = .ok (.iadd, 1) := by decide +kernel
theorem dX7_pass_47 : decode cX7_pass 47 = .ok (.iload_n 2, 1) := by decide +kernel
theorem dX7_pass_48 : decode cX7_pass 48 = .ok (.bipush 60, 2) := by decide +kernel
theorem dX7_pass_50 : decode cX7_pass 50 = .ok (.idiv, 1) := by decide +kernel
theorem dX7_pass_51 : decode cX7_pass 51 = .ok (.invokevirtual 266, 3) := by decide +kernel
theorem dX7_pass_54 : decode cX7_pass 54 = .ok (.iload_n 2, 1) := by decide +kernel
theorem dX7_pass_55 : decode cX7_pass 55 = .ok (.ldc_w 269, 3) := by decide +kernel
theorem dX7_pass_58 : decode cX7_pass 58 = .ok (.idiv, 1) := by decide +kernel
theorem dX7_pass_59 : decode cX7_pass 59 = .ok (.aload_n 0, 1) := by decide +kernel
theorem dX7_pass_60 : decode cX7_pass 60 = .ok (.getfield 160, 3) := by decide +kernel
theorem dX7_pass_63 : decode cX7_pass 63 = .ok (.ldc_w 269, 3) := by decide +kernel
theorem dX7_pass_66 : decode cX7_pass 66 = .ok (.idiv, 1) := by decide +kernel
theorem dX7_pass_67 : decode cX7_pass 67 = .ok (.if_icmp .eq 7, 3) := by decide +kernel
theorem dX7_pass_70 : decode cX7_pass 70 = .ok (.aload_n 0, 1) := by decide +kernel
theorem dX7_pass_71 : decode cX7_pass 71 = .ok (.invokevirtual 270, 3) := by decide +kernel
theorem dX7_pass_74 : decode cX7_pass 74 = .ok (.aload_n 0, 1) := by decide +kernel
theorem dX7_pass_75 : decode cX7_pass 75 = .ok (.iload_n 2, 1) := by decide +kernel
theorem dX7_pass_76 : decode cX7_pass 76 = .ok (.putfield 160, 3) := by decide +kernel
theorem dX7_pass_79 : decode cX7_pass 79 = .ok (.aload_n 0, 1) := by decide +kernel
theorem dX7_pass_80 : decode cX7_pass 80 = .ok (.getfield 160, 3) := by decide +kernel
theorem dX7_pass_83 : decode cX7_pass 83 = .ok (.ireturn, 1) := by decide +kernel
theorem dX7_requireRange_0 : decode cX7_requireRange 0 = .ok (.iload_n 0, 1) := by decide +kernel
theorem dX7_requireRange_1 : decode cX7_requireRange 1 = .ok (.iload_n 1, 1) := by decide +kernel
theorem dX7_requireRange_2 : decode cX7_requireRange 2 = .ok (.if_icmp .lt 8, 3) := by decide +kernel
theorem dX7_requireRange_5 : decode cX7_requireRange 5 = .ok (.iload_n 0, 1) := by decide +kernel
theorem dX7_requireRange_6 : decode cX7_requireRange 6 = .ok (.iload_n 2, 1) := by decide +kernel
theorem dX7_requireRange_7 : decode cX7_requireRange 7 = .ok (.if_icmp .le 14, 3) := by decide +kernel
theorem dX7_requireRange_10 : decode cX7_requireRange 10 = .ok (.new 194, 3) := by decide +kernel
theorem dX7_requireRange_13 : decode cX7_requireRange 13 = .ok (.dup, 1) := by decide +kernel
theorem dX7_requireRange_14 : decode cX7_requireRange 14 = .ok (.ldc_w 273, 3) := by decide +kernel
theorem dX7_requireRange_17 : decode cX7_requireRange 17 = .ok (.invokespecial 198, 3) := by decide +kernel
theorem dX7_requireRange_20 : decode cX7_requireRange 20 = .ok (.athrow, 1) := by decide +kernel
theorem dX7_requireRange_21 : decode cX7_requireRange 21 = .ok (.return_, 1) := by decide +kernel
theorem dX7_requireDifferent_0 : decode cX7_requireDifferent 0 = .ok (.iload_n 0, 1) := by decide +kernel
theorem dX7_requireDifferent_1 : decode cX7_requireDifferent 1 = .ok (.iload_n 1, 1) := by decide +kernel
theorem dX7_requireDifferent_2 : decode cX7_requireDifferent 2 = .ok (.if_icmp .ne 14, 3) := by decide +kernel
theorem dX7_requireDifferent_5 : decode cX7_requireDifferent 5 = .ok (.new 194, 3) := by decide +kernel
theorem dX7_requireDifferent_8 : decode cX7_requireDifferent 8 = .ok (.dup, 1) := by decide +kernel
theorem dX7_requireDifferent_9 : decode cX7_requireDifferent 9 = .ok (.ldc_w 275, 3) := by decide +kernel
theorem dX7_requireDifferent_12 : decode cX7_requireDifferent 12 = .ok (.invokespecial 198, 3) := by decide +kernel
theorem dX7_requireDifferent_15 : decode cX7_requireDifferent 15 = .ok (.athrow, 1) := by decide +kernel
theorem dX7_requireDifferent_16 : decode cX7_requireDifferent 16 = .ok (.return_, 1) := by decide +kernel
theorem dX7_requireRoom_0 : decode cX7_requireRoom 0 = .ok (.iload_n 0, 1) := by decide +kernel
theorem dX7_requireRoom_1 : decode cX7_requireRoom 1 = .ok (.iload_n 1, 1) := by decide +kernel
theorem dX7_requireRoom_2 : decode cX7_requireRoom 2 = .ok (.if_icmp .lt 14, 3) := by decide +kernel
theorem dX7_requireRoom_5 : decode cX7_requireRoom 5 = .ok (.new 145, 3) := by decide +kernel
theorem dX7_requireRoom_8 : decode cX7_requireRoom 8 = .ok (.dup, 1) := by decide +kernel
theorem dX7_requireRoom_9 : decode cX7_requireRoom 9 = .ok (.ldc_w 277, 3) := by decide +kernel
theorem dX7_requireRoom_12 : decode cX7_requireRoom 12 = .ok (.invokespecial 149, 3) := by decide +kernel
theorem dX7_requireRoom_15 : decode cX7_requireRoom 15 = .ok (.athrow, 1) := by decide +kernel
theorem dX7_requireRoom_16 : decode cX7_requireRoom 16 = .ok (.return_, 1) := by decide +kernel
theorem dX7_requireNetwork_0 : decode cX7_requireNetwork 0 = .ok (.iload_n 1, 1) := by decide +kernel
theorem dX7_requireNetwork_1 : decode cX7_requireNetwork 1 = .ok (.ifCond .lt 12, 3) := by decide +kernel
theorem dX7_requireNetwork_4 : decode cX7_requireNetwork 4 = .ok (.iload_n 1, 1) := by decide +kernel
theorem dX7_requireNetwork_5 : decode cX7_requireNetwork 5 = .ok (.aload_n 0, 1) := by decide +kernel
theorem dX7_requireNetwork_6 : decode cX7_requireNetwork 6 = .ok (.getfield 15, 3) := by decide +kernel
theorem dX7_requireNetwork_9 : decode cX7_requireNetwork 9 = .ok (.arraylength, 1) := by decide +kernel
theorem dX7_requireNetwork_10 : decode cX7_requireNetwork 10 = .ok (.if_icmp .lt 14, 3) := by decide +kernel
theorem dX7_requireNetwork_13 : decode cX7_requireNetwork 13 = .ok (.new 243, 3) := by decide +kernel
theorem dX7_requireNetwork_16 : decode cX7_requireNetwork 16 = .ok (.dup, 1) := by decide +kernel
theorem dX7_requireNetwork_17 : decode cX7_requireNetwork 17 = .ok (.ldc_w 279, 3) := by decide +kernel
theorem dX7_requireNetwork_20 : decode cX7_requireNetwork 20 = .ok (.invokespecial 247, 3) := by decide +kernel
theorem dX7_requireNetwork_23 : decode cX7_requireNetwork 23 = .ok (.athrow, 1) := by decide +kernel
theorem dX7_requireNetwork_24 : decode cX7_requireNetwork 24 = .ok (.return_, 1) := by decide +kernel
theorem dX7_requirePlace_0 : decode cX7_requirePlace 0 = .ok (.iload_n 1, 1) := by decide +kernel
theorem dX7_requirePlace_1 : decode cX7_requirePlace 1 = .ok (.ifCond .lt 12, 3) := by decide +kernel
theorem dX7_requirePlace_4 : decode cX7_requirePlace 4 = .ok (.iload_n 1, 1) := by decide +kernel
theorem dX7_requirePlace_5 : decode cX7_requirePlace 5 = .ok (.aload_n 0, 1) := by decide +kernel
theorem dX7_requirePlace_6 : decode cX7_requirePlace 6 = .ok (.getfield 9, 3) := by decide +kernel
theorem dX7_requirePlace_9 : decode cX7_requirePlace 9 = .ok (.arraylength, 1) := by decide +kernel
theorem dX7_requirePlace_10 : decode cX7_requirePlace 10 = .ok (.if_icmp .lt 14, 3) := by decide +kernel
theorem dX7_requirePlace_13 : decode cX7_requirePlace 13 = .ok (.new 243, 3) := by decide +kernel
theorem dX7_requirePlace_16 : decode cX7_requirePlace 16 = .ok (.dup, 1) := by decide +kernel
theorem dX7_requirePlace_17 : decode cX7_requirePlace 17 = .ok (.ldc_w 281, 3) := by decide +kernel
theorem dX7_requirePlace_20 : decode cX7_requirePlace 20 = .ok (.invokespecial 247, 3) := by decide +kernel
theorem dX7_requirePlace_23 : decode cX7_requirePlace 23 = .ok (.athrow, 1) := by decide +kernel
theorem dX7_requirePlace_24 : decode cX7_requirePlace 24 = .ok (.return_, 1) := by decide +kernel
theorem dX7_networkAt_0 : decode cX7_networkAt 0 = .ok (.aload_n 0, 1) := by decide +kernel
theorem dX7_networkAt_1 : decode cX7_networkAt 1 = .ok (.iload_n 1, 1) := by decide +kernel
theorem dX7_networkAt_2 : decode cX7_networkAt 2 = .ok (.invokevirtual 87, 3) := by decide +kernel
theorem dX7_networkAt_5 : decode cX7_networkAt 5 = .ok (.aload_n 0, 1) := by decide +kernel
theorem dX7_networkAt_6 : decode cX7_networkAt 6 = .ok (.getfield 15, 3) := by decide +kernel
theorem dX7_networkAt_9 : decode cX7_networkAt 9 = .ok (.iload_n 1, 1) := by decide +kernel
theorem dX7_networkAt_10 : decode cX7_networkAt 10 = .ok (.aaload, 1) := by decide +kernel
theorem dX7_networkAt_11 : decode cX7_networkAt 11 = .ok (.areturn, 1) := by decide +kernel
theorem dX7_receivedAt_0 : decode cX7_receivedAt 0 = .ok (.aload_n 0, 1) := by decide +kernel
theorem dX7_receivedAt_1 : decode cX7_receivedAt 1 = .ok (.iload_n 1, 1) := by decide +kernel
theorem dX7_receivedAt_2 : decode cX7_receivedAt 2 = .ok (.invokevirtual 126, 3) := by decide +kernel
theorem dX7_receivedAt_5 : decode cX7_receivedAt 5 = .ok (.aload_n 0, 1) := by decide +kernel
theorem dX7_receivedAt_6 : decode cX7_receivedAt 6 = .ok (.getfield 9, 3) := by decide +kernel
theorem dX7_receivedAt_9 : decode cX7_receivedAt 9 = .ok (.iload_n 1, 1) := by decide +kernel
theorem dX7_receivedAt_10 : decode cX7_receivedAt 10 = .ok (.iaload, 1) := by decide +kernel
theorem dX7_receivedAt_11 : decode cX7_receivedAt 11 = .ok (.ireturn, 1) := by decide +kernel
theorem dX7_subscriberAt_0 : decode cX7_subscriberAt 0 = .ok (.iload_n 1, 1) := by decide +kernel
theorem dX7_subscriberAt_1 : decode cX7_subscriberAt 1 = .ok (.ifCond .lt 14, 3) := by decide +kernel
theorem dX7_subscriberAt_4 : decode cX7_subscriberAt 4 = .ok (.iload_n 1, 1) := by decide +kernel
theorem dX7_subscriberAt_5 : decode cX7_subscriberAt 5 = .ok (.aload_n 0, 1) := by decide +kernel
theorem dX7_subscriberAt_6 : decode cX7_subscriberAt 6 = .ok (.getfield 32, 3) := by decide +kernel
theorem dX7_subscriberAt_9 : decode cX7_subscriberAt 9 = .ok (.invokevirtual 48, 3) := by decide +kernel
theorem dX7_subscriberAt_12 : decode cX7_subscriberAt 12 = .ok (.if_icmp .lt 14, 3) := by decide +kernel
theorem dX7_subscriberAt_15 : decode cX7_subscriberAt 15 = .ok (.new 243, 3) := by decide +kernel
theorem dX7_subscriberAt_18 : decode cX7_subscriberAt 18 = .ok (.dup, 1) := by decide +kernel
theorem dX7_subscriberAt_19 : decode cX7_subscriberAt 19 = .ok (.ldc_w 283, 3) := by decide +kernel
theorem dX7_subscriberAt_22 : decode cX7_subscriberAt 22 = .ok (.invokespecial 247, 3) := by decide +kernel
theorem dX7_subscriberAt_25 : decode cX7_subscriberAt 25 = .ok (.athrow, 1) := by decide +kernel
theorem dX7_subscriberAt_26 : decode cX7_subscriberAt 26 = .ok (.aload_n 0, 1) := by decide +kernel
theorem dX7_subscriberAt_27 : decode cX7_subscriberAt 27 = .ok (.getfield 32, 3) := by decide +kernel
theorem dX7_subscriberAt_30 : decode cX7_subscriberAt 30 = .ok (.iload_n 1, 1) := by decide +kernel
theorem dX7_subscriberAt_31 : decode cX7_subscriberAt 31 = .ok (.invokevirtual 52, 3) := by decide +kernel
theorem dX7_subscriberAt_34 : decode cX7_subscriberAt 34 = .ok (.checkcast 56, 3) := by decide +kernel
theorem dX7_subscriberAt_37 : decode cX7_subscriberAt 37 = .ok (.areturn, 1) := by decide +kernel
theorem dX7_accountOf_0 : decode cX7_accountOf 0 = .ok (.aload_n 0, 1) := by decide +kernel
theorem dX7_accountOf_1 : decode cX7_accountOf 1 = .ok (.iload_n 1, 1) := by decide +kernel
theorem dX7_accountOf_2 : decode cX7_accountOf 2 = .ok (.invokevirtual 87, 3) := by decide +kernel
theorem dX7_accountOf_5 : decode cX7_accountOf 5 = .ok (.aload_n 0, 1) := by decide +kernel
theorem dX7_accountOf_6 : decode cX7_accountOf 6 = .ok (.iload_n 2, 1) := by decide +kernel
theorem dX7_accountOf_7 : decode cX7_accountOf 7 = .ok (.invokevirtual 87, 3) := by decide +kernel
theorem dX7_accountOf_10 : decode cX7_accountOf 10 = .ok (.aload_n 0, 1) := by decide +kernel
theorem dX7_accountOf_11 : decode cX7_accountOf 11 = .ok (.getfield 21, 3) := by decide +kernel
theorem dX7_accountOf_14 : decode cX7_accountOf 14 = .ok (.iload_n 1, 1) := by decide +kernel
theorem dX7_accountOf_15 : decode cX7_accountOf 15 = .ok (.bipush 6, 2) := by decide +kernel
theorem dX7_accountOf_17 : decode cX7_accountOf 17 = .ok (.imul, 1) := by decide +kernel
theorem dX7_accountOf_18 : decode cX7_accountOf 18 = .ok (.iload_n 2, 1) := by decide +kernel
theorem dX7_accountOf_19 : decode cX7_accountOf 19 = .ok (.iadd, 1) := by decide +kernel
theorem dX7_accountOf_20 : decode cX7_accountOf 20 = .ok (.aaload, 1) := by decide +kernel
theorem dX7_accountOf_21 : decode cX7_accountOf 21 = .ok (.areturn, 1) := by decide +kernel
theorem dX7_isIn_0 : decode cX7_isIn 0 = .ok (.iload_n 0, 1) := by decide +kernel
theorem dX7_isIn_1 : decode cX7_isIn 1 = .ok (.iload_n 1, 1) := by decide +kernel
theorem dX7_isIn_2 : decode cX7_isIn 2 = .ok (.ishr, 1) := by decide +kernel
theorem dX7_isIn_3 : decode cX7_isIn 3 = .ok (.iconst 1, 1) := by decide +kernel
theorem dX7_isIn_4 : decode cX7_isIn 4 = .ok (.iand, 1) := by decide +kernel
theorem dX7_isIn_5 : decode cX7_isIn 5 = .ok (.iconst 1, 1) := by decide +kernel
theorem dX7_isIn_6 : decode cX7_isIn 6 = .ok (.if_icmp .ne 7, 3) := by decide +kernel
theorem dX7_isIn_9 : decode cX7_isIn 9 = .ok (.iconst 1, 1) := by decide +kernel
theorem dX7_isIn_10 : decode cX7_isIn 10 = .ok (.goto 4, 3) := by decide +kernel
theorem dX7_isIn_13 : decode cX7_isIn 13 = .ok (.iconst 0, 1) := by decide +kernel
theorem dX7_isIn_14 : decode cX7_isIn 14 = .ok (.ireturn, 1) := by decide +kernel
theorem dX7_detachIfNotReceived_0 : decode cX7_detachIfNotReceived 0 = .ok (.aload_n 1, 1) := by decide +kernel
theorem dX7_detachIfNotReceived_1 : decode cX7_detachIfNotReceived 1 = .ok (.getfield 142, 3) := by decide +kernel
theorem dX7_detachIfNotReceived_4 : decode cX7_detachIfNotReceived 4 = .ok (.iconst (-1), 1) := by decide +kernel
theorem dX7_detachIfNotReceived_5 : decode cX7_detachIfNotReceived 5 = .ok (.if_icmp .eq 26, 3) := by decide +kernel
theorem dX7_detachIfNotReceived_8 : decode cX7_detachIfNotReceived 8 = .ok (.aload_n 0, 1) := by decide +kernel
theorem dX7_detachIfNotReceived_9 : decode cX7_detachIfNotReceived 9 = .ok (.aload_n 1, 1) := by decide +kernel
theorem dX7_detachIfNotReceived_10 : decode cX7_detachIfNotReceived 10 = .ok (.getfield 58, 3) := by decide +kernel
theorem dX7_detachIfNotReceived_13 : decode cX7_detachIfNotReceived 13 = .ok (.invokevirtual 40, 3) := by decide +kernel
theorem dX7_detachIfNotReceived_16 : decode cX7_detachIfNotReceived 16 = .ok (.aload_n 1, 1) := by decide +kernel
theorem dX7_detachIfNotReceived_17 : decode cX7_detachIfNotReceived 17 = .ok (.getfield 142, 3) := by decide +kernel
theorem dX7_detachIfNotReceived_20 : decode cX7_detachIfNotReceived 20 = .ok (.invokestatic 167, 3) := by decide +kernel
theorem dX7_detachIfNotReceived_23 : decode cX7_detachIfNotReceived 23 = .ok (.ifCond .ne 8, 3) := by decide +kernel
theorem dX7_detachIfNotReceived_26 : decode cX7_detachIfNotReceived 26 = .ok (.aload_n 1, 1) := by decide +kernel
theorem dX7_detachIfNotReceived_27 : decode cX7_detachIfNotReceived 27 = .ok (.iconst (-1), 1) := by decide +kernel
theorem dX7_detachIfNotReceived_28 : decode cX7_detachIfNotReceived 28 = .ok (.putfield 142, 3) := by decide +kernel
theorem dX7_detachIfNotReceived_31 : decode cX7_detachIfNotReceived 31 = .ok (.return_, 1) := by decide +kernel
theorem dX7_detachAllFrom_0 : decode cX7_detachAllFrom 0 = .ok (.iconst 0, 1) := by decide +kernel
theorem dX7_detachAllFrom_1 : decode cX7_detachAllFrom 1 = .ok (.istore_n 2, 1) := by decide +kernel
theorem dX7_detachAllFrom_2 : decode cX7_detachAllFrom 2 = .ok (.iload_n 2, 1) := by decide +kernel
theorem dX7_detachAllFrom_3 : decode cX7_detachAllFrom 3 = .ok (.aload_n 0, 1) := by decide +kernel
theorem dX7_detachAllFrom_4 : decode cX7_detachAllFrom 4 = .ok (.getfield 32, 3) := by decide +kernel
theorem dX7_detachAllFrom_7 : decode cX7_detachAllFrom 7 = .ok (.invokevirtual 48, 3) := by decide +kernel
theorem dX7_detachAllFrom_10 : decode cX7_detachAllFrom 10 = .ok (.if_icmp .ge 34, 3) := by decide +kernel
theorem dX7_detachAllFrom_13 : decode cX7_detachAllFrom 13 = .ok (.aload_n 0, 1) := by decide +kernel
theorem dX7_detachAllFrom_14 : decode cX7_detachAllFrom 14 = .ok (.getfield 32, 3) := by decide +kernel
theorem dX7_detachAllFrom_17 : decode cX7_detachAllFrom 17 = .ok (.iload_n 2, 1) := by decide +kernel
theorem dX7_detachAllFrom_18 : decode cX7_detachAllFrom 18 = .ok (.invokevirtual 52, 3) := by decide +kernel
theorem dX7_detachAllFrom_21 : decode cX7_detachAllFrom 21 = .ok (.checkcast 56, 3) := by decide +kernel
theorem dX7_detachAllFrom_24 : decode cX7_detachAllFrom 24 = .ok (.astore_n 3, 1) := by decide +kernel
theorem dX7_detachAllFrom_25 : decode cX7_detachAllFrom 25 = .ok (.aload_n 3, 1) := by decide +kernel
theorem dX7_detachAllFrom_26 : decode cX7_detachAllFrom 26 = .ok (.getfield 142, 3) := by decide +kernel
theorem dX7_detachAllFrom_29 : decode cX7_detachAllFrom 29 = .ok (.iload_n 1, 1) := by decide +kernel
theorem dX7_detachAllFrom_30 : decode cX7_detachAllFrom 30 = .ok (.if_icmp .ne 8, 3) := by decide +kernel
theorem dX7_detachAllFrom_33 : decode cX7_detachAllFrom 33 = .ok (.aload_n 3, 1) := by decide +kernel
theorem dX7_detachAllFrom_34 : decode cX7_detachAllFrom 34 = .ok (.iconst (-1), 1) := by decide +kernel
theorem dX7_detachAllFrom_35 : decode cX7_detachAllFrom 35 = .ok (.putfield 142, 3) := by decide +kernel
theorem dX7_detachAllFrom_38 : decode cX7_detachAllFrom 38 = .ok (.iinc 2 1, 3) := by decide +kernel
theorem dX7_detachAllFrom_41 : decode cX7_detachAllFrom 41 = .ok (.goto (-39), 3) := by decide +kernel
theorem dX7_detachAllFrom_44 : decode cX7_detachAllFrom 44 = .ok (.return_, 1) := by decide +kernel
theorem dX7_agreementNow_0 : decode cX7_agreementNow 0 = .ok (.aload_n 0, 1) := by decide +kernel
theorem dX7_agreementNow_1 : decode cX7_agreementNow 1 = .ok (.getfield 28, 3) := by decide +kernel
theorem dX7_agreementNow_4 : decode cX7_agreementNow 4 = .ok (.invokevirtual 48, 3) := by decide +kernel
theorem dX7_agreementNow_7 : decode cX7_agreementNow 7 = .ok (.iconst 1, 1) := by decide +kernel
theorem dX7_agreementNow_8 : decode cX7_agreementNow 8 = .ok (.isub, 1) := by decide +kernel
theorem dX7_agreementNow_9 : decode cX7_agreementNow 9 = .ok (.istore_n 3, 1) := by decide +kernel
theorem dX7_agreementNow_10 : decode cX7_agreementNow 10 = .ok (.iload_n 3, 1) := by decide +kernel
theorem dX7_agreementNow_11 : decode cX7_agreementNow 11 = .ok (.ifCond .lt 39, 3) := by decide +kernel
theorem dX7_agreementNow_14 : decode cX7_agreementNow 14 = .ok (.aload_n 0, 1) := by decide +kernel
theorem dX7_agreementNow_15 : decode cX7_agreementNow 15 = .ok (.getfield 28, 3) := by decide +kernel
theorem dX7_agreementNow_18 : decode cX7_agreementNow 18 = .ok (.iload_n 3, 1) := by decide +kernel
theorem dX7_agreementNow_19 : decode cX7_agreementNow 19 = .ok (.invokevirtual 52, 3) := by decide +kernel
theorem dX7_agreementNow_22 : decode cX7_agreementNow 22 = .ok (.checkcast 99, 3) := by decide +kernel
theorem dX7_agreementNow_25 : decode cX7_agreementNow 25 = .ok (.astore 4, 2) := by decide +kernel
theorem dX7_agreementNow_27 : decode cX7_agreementNow 27 = .ok (.aload 4, 2) := by decide +kernel
theorem dX7_agreementNow_29 : decode cX7_agreementNow 29 = .ok (.iload_n 1, 1) := by decide +kernel
theorem dX7_agreementNow_30 : decode cX7_agreementNow 30 = .ok (.iload_n 2, 1) := by decide +kernel
theorem dX7_agreementNow_31 : decode cX7_agreementNow 31 = .ok (.aload_n 0, 1) := by decide +kernel
theorem dX7_agreementNow_32 : decode cX7_agreementNow 32 = .ok (.getfield 160, 3) := by decide +kernel
theorem dX7_agreementNow_35 : decode cX7_agreementNow 35 = .ok (.invokevirtual 285, 3) := by decide +kernel
theorem dX7_agreementNow_38 : decode cX7_agreementNow 38 = .ok (.ifCond .eq 6, 3) := by decide +kernel
theorem dX7_agreementNow_41 : decode cX7_agreementNow 41 = .ok (.aload 4, 2) := by decide +kernel
theorem dX7_agreementNow_43 : decode cX7_agreementNow 43 = .ok (.areturn, 1) := by decide +kernel
theorem dX7_agreementNow_44 : decode cX7_agreementNow 44 = .ok (.iinc 3 (-1), 3) := by decide +kernel
theorem dX7_agreementNow_47 : decode cX7_agreementNow 47 = .ok (.goto (-37), 3) := by decide +kernel
theorem dX7_agreementNow_50 : decode cX7_agreementNow 50 = .ok (.aconst_null, 1) := by decide +kernel
theorem dX7_agreementNow_51 : decode cX7_agreementNow 51 = .ok (.areturn, 1) := by decide +kernel
theorem dX7_whyNotUsable_0 : decode cX7_whyNotUsable 0 = .ok (.aload_n 0, 1) := by decide +kernel
theorem dX7_whyNotUsable_1 : decode cX7_whyNotUsable 1 = .ok (.aload_n 1, 1) := by decide +kernel
theorem dX7_whyNotUsable_2 : decode cX7_whyNotUsable 2 = .ok (.getfield 58, 3) := by decide +kernel
theorem dX7_whyNotUsable_5 : decode cX7_whyNotUsable 5 = .ok (.invokevirtual 40, 3) := by decide +kernel
theorem dX7_whyNotUsable_8 : decode cX7_whyNotUsable 8 = .ok (.iload_n 2, 1) := by decide +kernel
theorem dX7_whyNotUsable_9 : decode cX7_whyNotUsable 9 = .ok (.invokestatic 167, 3) := by decide +kernel
theorem dX7_whyNotUsable_12 : decode cX7_whyNotUsable 12 = .ok (.ifCond .ne 5, 3) := by decide +kernel
theorem dX7_whyNotUsable_15 : decode cX7_whyNotUsable 15 = .ok (.iconst 1, 1) := by decide +kernel
theorem dX7_whyNotUsable_16 : decode cX7_whyNotUsable 16 = .ok (.ireturn, 1) := by decide +kernel
theorem dX7_whyNotUsable_17 : decode cX7_whyNotUsable 17 = .ok (.aload_n 0, 1) := by decide +kernel
theorem dX7_whyNotUsable_18 : decode cX7_whyNotUsable 18 = .ok (.iload_n 2, 1) := by decide +kernel
theorem dX7_whyNotUsable_19 : decode cX7_whyNotUsable 19 = .ok (.invokevirtual 66, 3) := by decide +kernel
theorem dX7_whyNotUsable_22 : decode cX7_whyNotUsable 22 = .ok (.getfield 70, 3) := by decide +kernel
theorem dX7_whyNotUsable_25 : decode cX7_whyNotUsable 25 = .ok (.ifCond .eq 5, 3) := by decide +kernel
theorem dX7_whyNotUsable_28 : decode cX7_whyNotUsable 28 = .ok (.iconst 2, 1) := by decide +kernel
theorem dX7_whyNotUsable_29 : decode cX7_whyNotUsable 29 = .ok (.ireturn, 1) := by decide +kernel
theorem dX7_whyNotUsable_30 : decode cX7_whyNotUsable 30 = .ok (.aload_n 1, 1) := by decide +kernel
theorem dX7_whyNotUsable_31 : decode cX7_whyNotUsable 31 = .ok (.getfield 289, 3) := by decide +kernel
theorem dX7_whyNotUsable_34 : decode cX7_whyNotUsable 34 = .ok (.iload_n 2, 1) := by decide +kernel
theorem dX7_whyNotUsable_35 : decode cX7_whyNotUsable 35 = .ok (.invokestatic 167, 3) := by decide +kernel
theorem dX7_whyNotUsable_38 : decode cX7_whyNotUsable 38 = .ok (.ifCond .eq 5, 3) := by decide +kernel
theorem dX7_whyNotUsable_41 : decode cX7_whyNotUsable 41 = .ok (.iconst 3, 1) := by decide +kernel
theorem dX7_whyNotUsable_42 : decode cX7_whyNotUsable 42 = .ok (.ireturn, 1) := by decide +kernel
theorem dX7_whyNotUsable_43 : decode cX7_whyNotUsable 43 = .ok (.iload_n 2, 1) := by decide +kernel
theorem dX7_whyNotUsable_44 : decode cX7_whyNotUsable 44 = .ok (.aload_n 1, 1) := by decide +kernel
theorem dX7_whyNotUsable_45 : decode cX7_whyNotUsable 45 = .ok (.getfield 292, 3) := by decide +kernel
theorem dX7_whyNotUsable_48 : decode cX7_whyNotUsable 48 = .ok (.if_icmp .eq 17, 3) := by decide +kernel
theorem dX7_whyNotUsable_51 : decode cX7_whyNotUsable 51 = .ok (.aload_n 0, 1) := by decide +kernel
theorem dX7_whyNotUsable_52 : decode cX7_whyNotUsable 52 = .ok (.aload_n 1, 1) := by decide +kernel
theorem dX7_whyNotUsable_53 : decode cX7_whyNotUsable 53 = .ok (.getfield 292, 3) := by decide +kernel
theorem dX7_whyNotUsable_56 : decode cX7_whyNotUsable 56 = .ok (.iload_n 2, 1) := by decide +kernel
theorem dX7_whyNotUsable_57 : decode cX7_whyNotUsable 57 = .ok (.invokevirtual 295, 3) := by decide +kernel
theorem dX7_whyNotUsable_60 : decode cX7_whyNotUsable 60 = .ok (.ifnonnull 5, 3) := by decide +kernel
theorem dX7_whyNotUsable_63 : decode cX7_whyNotUsable 63 = .ok (.iconst 4, 1) := by decide +kernel
theorem dX7_whyNotUsable_64 : decode cX7_whyNotUsable 64 = .ok (.ireturn, 1) := by decide +kernel
theorem dX7_whyNotUsable_65 : decode cX7_whyNotUsable 65 = .ok (.iconst 0, 1) := by decide +kernel
theorem dX7_whyNotUsable_66 : decode cX7_whyNotUsable 66 = .ok (.ireturn, 1) := by decide +kernel
theorem dX7_isSteered_0 : decode cX7_isSteered 0 = .ok (.aload_n 0, 1) := by decide +kernel
theorem dX7_isSteered_1 : decode cX7_isSteered 1 = .ok (.aload_n 1, 1) := by decide +kernel
theorem dX7_isSteered_2 : decode cX7_isSteered 2 = .ok (.getfield 292, 3) := by decide +kernel
theorem dX7_isSteered_5 : decode cX7_isSteered 5 = .ok (.invokevirtual 66, 3) := by decide +kernel
theorem dX7_isSteered_8 : decode cX7_isSteered 8 = .ok (.getfield 108, 3) := by decide +kernel
theorem dX7_isSteered_11 : decode cX7_isSteered 11 = .ok (.istore_n 3, 1) := by decide +kernel
theorem dX7_isSteered_12 : decode cX7_isSteered 12 = .ok (.iload_n 3, 1) := by decide +kernel
theorem dX7_isSteered_13 : decode cX7_isSteered 13 = .ok (.iconst (-1), 1) := by decide +kernel
theorem dX7_isSteered_14 : decode cX7_isSteered 14 = .ok (.if_icmp .eq 29, 3) := by decide +kernel
theorem dX7_isSteered_17 : decode cX7_isSteered 17 = .ok (.iload_n 3, 1) := by decide +kernel
theorem dX7_isSteered_18 : decode cX7_isSteered 18 = .ok (.iload_n 2, 1) := by decide +kernel
theorem dX7_isSteered_19 : decode cX7_isSteered 19 = .ok (.if_icmp .eq 24, 3) := by decide +kernel
theorem dX7_isSteered_22 : decode cX7_isSteered 22 = .ok (.aload_n 1, 1) := by decide +kernel
theorem dX7_isSteered_23 : decode cX7_isSteered 23 = .ok (.getfield 139, 3) := by decide +kernel
theorem dX7_isSteered_26 : decode cX7_isSteered 26 = .ok (.iconst 2, 1) := by decide +kernel
theorem dX7_isSteered_27 : decode cX7_isSteered 27 = .ok (.if_icmp .ge 16, 3) := by decide +kernel
theorem dX7_isSteered_30 : decode cX7_isSteered 30 = .ok (.aload_n 0, 1) := by decide +kernel
theorem dX7_isSteered_31 : decode cX7_isSteered 31 = .ok (.aload_n 1, 1) := by decide +kernel
theorem dX7_isSteered_32 : decode cX7_isSteered 32 = .ok (.iload_n 3, 1) := by decide +kernel
theorem dX7_isSteered_33 : decode cX7_isSteered 33 = .ok (.invokevirtual 152, 3) := by decide +kernel
theorem dX7_isSteered_36 : decode cX7_isSteered 36 = .ok (.ifCond .ne 7, 3) := by decide +kernel
theorem dX7_isSteered_39 : decode cX7_isSteered 39 = .ok (.iconst 1, 1) := by decide +kernel
theorem dX7_isSteered_40 : decode cX7_isSteered 40 = .ok (.goto 4, 3) := by decide +kernel
theorem dX7_isSteered_43 : decode cX7_isSteered 43 = .ok (.iconst 0, 1) := by decide +kernel
theorem dX7_isSteered_44 : decode cX7_isSteered 44 = .ok (.ireturn, 1) := by decide +kernel
theorem dX7_makeContact_0 : decode cX7_makeContact 0 = .ok (.aload_n 0, 1) := by decide +kernel
theorem dX7_makeContact_1 : decode cX7_makeContact 1 = .ok (.aload_n 1, 1) := by decide +kernel
theorem dX7_makeContact_2 : decode cX7_makeContact 2 = .ok (.getfield 142, 3) := by decide +kernel
theorem dX7_makeContact_5 : decode cX7_makeContact 5 = .ok (.invokevirtual 66, 3) := by decide +kernel
theorem dX7_makeContact_8 : decode cX7_makeContact 8 = .ok (.astore_n 3, 1) := by decide +kernel
theorem dX7_makeContact_9 : decode cX7_makeContact 9 = .ok (.aload_n 3, 1) := by decide +kernel
theorem dX7_makeContact_10 : decode cX7_makeContact 10 = .ok (.getfield 74, 3) := by decide +kernel
theorem dX7_makeContact_13 : decode cX7_makeContact 13 = .ok (.aload_n 1, 1) := by decide +kernel
theorem dX7_makeContact_14 : decode cX7_makeContact 14 = .ok (.getfield 132, 3) := by decide +kernel
theorem dX7_makeContact_17 : decode cX7_makeContact 17 = .ok (.iload_n 2, 1) := by decide +kernel
theorem dX7_makeContact_18 : decode cX7_makeContact 18 = .ok (.invokevirtual 299, 3) := by decide +kernel
theorem dX7_makeContact_21 : decode cX7_makeContact 21 = .ok (.aload_n 3, 1) := by decide +kernel
theorem dX7_makeContact_22 : decode cX7_makeContact 22 = .ok (.getfield 120, 3) := by decide +kernel
theorem dX7_makeContact_25 : decode cX7_makeContact 25 = .ok (.ifCond .le 14, 3) := by decide +kernel
theorem dX7_makeContact_28 : decode cX7_makeContact 28 = .ok (.aload_n 3, 1) := by decide +kernel
theorem dX7_makeContact_29 : decode cX7_makeContact 29 = .ok (.dup, 1) := by decide +kernel
theorem dX7_makeContact_30 : decode cX7_makeContact 30 = .ok (.getfield 120, 3) := by decide +kernel
theorem dX7_makeContact_33 : decode cX7_makeContact 33 = .ok (.iconst 1, 1) := by decide +kernel
theorem dX7_makeContact_34 : decode cX7_makeContact 34 = .ok (.isub, 1) := by decide +kernel
theorem dX7_makeContact_35 : decode cX7_makeContact 35 = .ok (.putfield 120, 3) := by decide +kernel
theorem dX7_makeContact_38 : decode cX7_makeContact 38 = .ok (.return_, 1) := by decide +kernel
theorem dX7_makeContact_39 : decode cX7_makeContact 39 = .ok (.aload_n 1, 1) := by decide +kernel
theorem dX7_makeContact_40 : decode cX7_makeContact 40 = .ok (.getfield 171, 3) := by decide +kernel
theorem dX7_makeContact_43 : decode cX7_makeContact 43 = .ok (.iconst (-1), 1) := by decide +kernel
theorem dX7_makeContact_44 : decode cX7_makeContact 44 = .ok (.if_icmp .eq 32, 3) := by decide +kernel
theorem dX7_makeContact_47 : decode cX7_makeContact 47 = .ok (.aload_n 1, 1) := by decide +kernel
theorem dX7_makeContact_48 : decode cX7_makeContact 48 = .ok (.getfield 171, 3) := by decide +kernel
theorem dX7_makeContact_51 : decode cX7_makeContact 51 = .ok (.aload_n 1, 1) := by decide +kernel
theorem dX7_makeContact_52 : decode cX7_makeContact 52 = .ok (.getfield 142, 3) := by decide +kernel
theorem dX7_makeContact_55 : decode cX7_makeContact 55 = .ok (.if_icmp .eq 21, 3) := by decide +kernel
theorem dX7_makeContact_58 : decode cX7_makeContact 58 = .ok (.aload_n 0, 1) := by decide +kernel
theorem dX7_makeContact_59 : decode cX7_makeContact 59 = .ok (.aload_n 1, 1) := by decide +kernel
theorem dX7_makeContact_60 : decode cX7_makeContact 60 = .ok (.getfield 171, 3) := by decide +kernel
theorem dX7_makeContact_63 : decode cX7_makeContact 63 = .ok (.invokevirtual 66, 3) := by decide +kernel
theorem dX7_makeContact_66 : decode cX7_makeContact 66 = .ok (.getfield 74, 3) := by decide +kernel
theorem dX7_makeContact_69 : decode cX7_makeContact 69 = .ok (.aload_n 1, 1) := by decide +kernel
theorem dX7_makeContact_70 : decode cX7_makeContact 70 = .ok (.getfield 132, 3) := by decide +kernel
theorem dX7_makeContact_73 : decode cX7_makeContact 73 = .ok (.invokevirtual 302, 3) := by decide +kernel
theorem dX7_makeContact_76 : decode cX7_makeContact 76 = .ok (.aload_n 1, 1) := by decide +kernel
theorem dX7_makeContact_77 : decode cX7_makeContact 77 = .ok (.aload_n 1, 1) := by decide +kernel
theorem dX7_makeContact_78 : decode cX7_makeContact 78 = .ok (.getfield 142, 3) := by decide +kernel
theorem dX7_makeContact_81 : decode cX7_makeContact 81 = .ok (.putfield 171, 3) := by decide +kernel
theorem dX7_makeContact_84 : decode cX7_makeContact 84 = .ok (.return_, 1) := by decide +kernel
theorem dX7_beginHours_0 : decode cX7_beginHours 0 = .ok (.iload_n 2, 1) := by decide +kernel
theorem dX7_beginHours_1 : decode cX7_beginHours 1 = .ok (.iload_n 1, 1) := by decide +kernel
theorem dX7_beginHours_2 : decode cX7_beginHours 2 = .ok (.bipush 12, 2) := by decide +kernel
theorem dX7_beginHours_4 : decode cX7_beginHours 4 = .ok (.iadd, 1) := by decide +kernel
theorem dX7_beginHours_5 : decode cX7_beginHours 5 = .ok (.iconst 1, 1) := by decide +kernel
theorem dX7_beginHours_6 : decode cX7_beginHours 6 = .ok (.isub, 1) := by decide +kernel
theorem dX7_beginHours_7 : decode cX7_beginHours 7 = .ok (.invokestatic 305, 3) := by decide +kernel
theorem dX7_beginHours_10 : decode cX7_beginHours 10 = .ok (.istore_n 3, 1) := by decide +kernel
theorem dX7_beginHours_11 : decode cX7_beginHours 11 = .ok (.iload_n 1, 1) := by decide +kernel
theorem dX7_beginHours_12 : decode cX7_beginHours 12 = .ok (.istore 4, 2) := by decide +kernel
theorem dX7_beginHours_14 : decode cX7_beginHours 14 = .ok (.iload 4, 2) := by decide +kernel
theorem dX7_beginHours_16 : decode cX7_beginHours 16 = .ok (.iload_n 3, 1) := by decide +kernel
theorem dX7_beginHours_17 : decode cX7_beginHours 17 = .ok (.if_icmp .gt 18, 3) := by decide +kernel
theorem dX7_beginHours_20 : decode cX7_beginHours 20 = .ok (.aload_n 0, 1) := by decide +kernel
theorem dX7_beginHours_21 : decode cX7_beginHours 21 = .ok (.iload 4, 2) := by decide +kernel
theorem dX7_beginHours_23 : decode cX7_beginHours 23 = .ok (.bipush 60, 2) := by decide +kernel
theorem dX7_beginHours_25 : decode cX7_beginHours 25 = .ok (.imul, 1) := by decide +kernel
theorem dX7_beginHours_26 : decode cX7_beginHours 26 = .ok (.invokevirtual 311, 3) := by decide +kernel
theorem dX7_beginHours_29 : decode cX7_beginHours 29 = .ok (.iinc 4 1, 3) := by decide +kernel
theorem dX7_beginHours_32 : decode cX7_beginHours 32 = .ok (.goto (-18), 3) := by decide +kernel
theorem dX7_beginHours_35 : decode cX7_beginHours 35 = .ok (.iload_n 3, 1) := by decide +kernel
theorem dX7_beginHours_36 : decode cX7_beginHours 36 = .ok (.iload_n 2, 1) := by decide +kernel
theorem dX7_beginHours_37 : decode cX7_beginHours 37 = .ok (.if_icmp .ge 11, 3) := by decide +kernel
theorem dX7_beginHours_40 : decode cX7_beginHours 40 = .ok (.aload_n 0, 1) := by decide +kernel
theorem dX7_beginHours_41 : decode cX7_beginHours 41 = .ok (.iload_n 2, 1) := by decide +kernel
theorem dX7_beginHours_42 : decode cX7_beginHours 42 = .ok (.bipush 60, 2) := by decide +kernel
theorem dX7_beginHours_44 : decode cX7_beginHours 44 = .ok (.imul, 1) := by decide +kernel
theorem dX7_beginHours_45 : decode cX7_beginHours 45 = .ok (.invokevirtual 311, 3) := by decide +kernel
theorem dX7_beginHours_48 : decode cX7_beginHours 48 = .ok (.return_, 1) := by decide +kernel
theorem dX7_beginHour_0 : decode cX7_beginHour 0 = .ok (.iconst 0, 1) := by decide +kernel
theorem dX7_beginHour_1 : decode cX7_beginHour 1 = .ok (.istore_n 2, 1) := by decide +kernel
theorem dX7_beginHour_2 : decode cX7_beginHour 2 = .ok (.iload_n 2, 1) := by decide +kernel
theorem dX7_beginHour_3 : decode cX7_beginHour 3 = .ok (.aload_n 0, 1) := by decide +kernel
theorem dX7_beginHour_4 : decode cX7_beginHour 4 = .ok (.getfield 32, 3) := by decide +kernel
theorem dX7_beginHour_7 : decode cX7_beginHour 7 = .ok (.invokevirtual 48, 3) := by decide +kernel
theorem dX7_beginHour_10 : decode cX7_beginHour 10 = .ok (.if_icmp .ge 35, 3) := by decide +kernel
theorem dX7_beginHour_13 : decode cX7_beginHour 13 = .ok (.aload_n 0, 1) := by decide +kernel
theorem dX7_beginHour_14 : decode cX7_beginHour 14 = .ok (.getfield 32, 3) := by decide +kernel
theorem dX7_beginHour_17 : decode cX7_beginHour 17 = .ok (.iload_n 2, 1) := by decide +kernel
theorem dX7_beginHour_18 : decode cX7_beginHour 18 = .ok (.invokevirtual 52, 3) := by decide +kernel
theorem dX7_beginHour_21 : decode cX7_beginHour 21 = .ok (.checkcast 56, 3) := by decide +kernel
theorem dX7_beginHour_24 : decode cX7_beginHour 24 = .ok (.astore_n 3, 1) := by decide +kernel
theorem dX7_beginHour_25 : decode cX7_beginHour 25 = .ok (.aload_n 3, 1) := by decide +kernel
theorem dX7_beginHour_26 : decode cX7_beginHour 26 = .ok (.getfield 142, 3) := by decide +kernel
theorem dX7_beginHour_29 : decode cX7_beginHour 29 = .ok (.iconst (-1), 1) := by decide +kernel
theorem dX7_beginHour_30 : decode cX7_beginHour 30 = .ok (.if_icmp .eq 9, 3) := by decide +kernel
theorem dX7_beginHour_33 : decode cX7_beginHour 33 = .ok (.aload_n 0, 1) := by decide +kernel
theorem dX7_beginHour_34 : decode cX7_beginHour 34 = .ok (.aload_n 3, 1) := by decide +kernel
theorem dX7_beginHour_35 : decode cX7_beginHour 35 = .ok (.iload_n 1, 1) := by decide +kernel
theorem dX7_beginHour_36 : decode cX7_beginHour 36 = .ok (.invokevirtual 163, 3) := by decide +kernel
theorem dX7_beginHour_39 : decode cX7_beginHour 39 = .ok (.iinc 2 1, 3) := by decide +kernel
theorem dX7_beginHour_42 : decode cX7_beginHour 42 = .ok (.goto (-40), 3) := by decide +kernel
theorem dX7_beginHour_45 : decode cX7_beginHour 45 = .ok (.iconst 0, 1) := by decide +kernel
theorem dX7_beginHour_46 : decode cX7_beginHour 46 = .ok (.istore_n 2, 1) := by decide +kernel
theorem dX7_beginHour_47 : decode cX7_beginHour 47 = .ok (.iload_n 2, 1) := by decide +kernel
theorem dX7_beginHour_48 : decode cX7_beginHour 48 = .ok (.aload_n 0, 1) := by decide +kernel
theorem dX7_beginHour_49 : decode cX7_beginHour 49 = .ok (.getfield 15, 3) := by decide +kernel
theorem dX7_beginHour_52 : decode cX7_beginHour 52 = .ok (.arraylength, 1) := by decide +kernel
theorem dX7_beginHour_53 : decode cX7_beginHour 53 = .ok (.if_icmp .ge 26, 3) := by decide +kernel
theorem dX7_beginHour_56 : decode cX7_beginHour 56 = .ok (.aload_n 0, 1) := by decide +kernel
theorem dX7_beginHour_57 : decode cX7_beginHour 57 = .ok (.getfield 15, 3) := by decide +kernel
theorem dX7_beginHour_60 : decode cX7_beginHour 60 = .ok (.iload_n 2, 1) := by decide +kernel
theorem dX7_beginHour_61 : decode cX7_beginHour 61 = .ok (.aaload, 1) := by decide +kernel
theorem dX7_beginHour_62 : decode cX7_beginHour 62 = .ok (.getfield 74, 3) := by decide +kernel
theorem dX7_beginHour_65 : decode cX7_beginHour 65 = .ok (.iload_n 1, 1) := by decide +kernel
theorem dX7_beginHour_66 : decode cX7_beginHour 66 = .ok (.sipush 180, 3) := by decide +kernel
theorem dX7_beginHour_69 : decode cX7_beginHour 69 = .ok (.isub, 1) := by decide +kernel
theorem dX7_beginHour_70 : decode cX7_beginHour 70 = .ok (.invokevirtual 314, 3) := by decide +kernel
theorem dX7_beginHour_73 : decode cX7_beginHour 73 = .ok (.iinc 2 1, 3) := by decide +kernel
theorem dX7_beginHour_76 : decode cX7_beginHour 76 = .ok (.goto (-29), 3) := by decide +kernel
theorem dX7_beginHour_79 : decode cX7_beginHour 79 = .ok (.return_, 1) := by decide +kernel
theorem dX7_beginMonth_0 : decode cX7_beginMonth 0 = .ok (.iconst 0, 1) := by decide +kernel
theorem dX7_beginMonth_1 : decode cX7_beginMonth 1 = .ok (.istore_n 1, 1) := by decide +kernel
theorem dX7_beginMonth_2 : decode cX7_beginMonth 2 = .ok (.iload_n 1, 1) := by decide +kernel
theorem dX7_beginMonth_3 : decode cX7_beginMonth 3 = .ok (.aload_n 0, 1) := by decide +kernel
theorem dX7_beginMonth_4 : decode cX7_beginMonth 4 = .ok (.getfield 32, 3) := by decide +kernel
theorem dX7_beginMonth_7 : decode cX7_beginMonth 7 = .ok (.invokevirtual 48, 3) := by decide +kernel
theorem dX7_beginMonth_10 : decode cX7_beginMonth 10 = .ok (.if_icmp .ge 24, 3) := by decide +kernel
theorem dX7_beginMonth_13 : decode cX7_beginMonth 13 = .ok (.aload_n 0, 1) := by decide +kernel
theorem dX7_beginMonth_14 : decode cX7_beginMonth 14 = .ok (.getfield 32, 3) := by decide +kernel
theorem dX7_beginMonth_17 : decode cX7_beginMonth 17 = .ok (.iload_n 1, 1) := by decide +kernel
theorem dX7_beginMonth_18 : decode cX7_beginMonth 18 = .ok (.invokevirtual 52, 3) := by decide +kernel
theorem dX7_beginMonth_21 : decode cX7_beginMonth 21 = .ok (.checkcast 56, 3) := by decide +kernel
theorem dX7_beginMonth_24 : decode cX7_beginMonth 24 = .ok (.iconst 0, 1) := by decide +kernel
theorem dX7_beginMonth_25 : decode cX7_beginMonth 25 = .ok (.putfield 184, 3) := by decide +kernel
theorem dX7_beginMonth_28 : decode cX7_beginMonth 28 = .ok (.iinc 1 1, 3) := by decide +kernel
theorem dX7_beginMonth_31 : decode cX7_beginMonth 31 = .ok (.goto (-29), 3) := by decide +kernel
theorem dX7_beginMonth_34 : decode cX7_beginMonth 34 = .ok (.return_, 1) := by decide +kernel
theorem dX7_whyNotFound_0 : decode cX7_whyNotFound 0 = .ok (.aload_n 1, 1) := by decide +kernel
theorem dX7_whyNotFound_1 : decode cX7_whyNotFound 1 = .ok (.getfield 142, 3) := by decide +kernel
theorem dX7_whyNotFound_4 : decode cX7_whyNotFound 4 = .ok (.iconst (-1), 1) := by decide +kernel
theorem dX7_whyNotFound_5 : decode cX7_whyNotFound 5 = .ok (.if_icmp .ne 5, 3) := by decide +kernel
theorem dX7_whyNotFound_8 : decode cX7_whyNotFound 8 = .ok (.iconst 1, 1) := by decide +kernel
theorem dX7_whyNotFound_9 : decode cX7_whyNotFound 9 = .ok (.ireturn, 1) := by decide +kernel
theorem dX7_whyNotFound_10 : decode cX7_whyNotFound 10 = .ok (.aload_n 2, 1) := by decide +kernel
theorem dX7_whyNotFound_11 : decode cX7_whyNotFound 11 = .ok (.getfield 171, 3) := by decide +kernel
theorem dX7_whyNotFound_14 : decode cX7_whyNotFound 14 = .ok (.iconst (-1), 1) := by decide +kernel
theorem dX7_whyNotFound_15 : decode cX7_whyNotFound 15 = .ok (.if_icmp .ne 5, 3) := by decide +kernel
theorem dX7_whyNotFound_18 : decode cX7_whyNotFound 18 = .ok (.iconst 2, 1) := by decide +kernel
theorem dX7_whyNotFound_19 : decode cX7_whyNotFound 19 = .ok (.ireturn, 1) := by decide +kernel
theorem dX7_whyNotFound_20 : decode cX7_whyNotFound 20 = .ok (.aload_n 0, 1) := by decide +kernel
theorem dX7_whyNotFound_21 : decode cX7_whyNotFound 21 = .ok (.aload_n 2, 1) := by decide +kernel
theorem dX7_whyNotFound_22 : decode cX7_whyNotFound 22 = .ok (.getfield 171, 3) := by decide +kernel
theorem dX7_whyNotFound_25 : decode cX7_whyNotFound 25 = .ok (.invokevirtual 66, 3) := by decide +kernel
theorem dX7_whyNotFound_28 : decode cX7_whyNotFound 28 = .ok (.getfield 74, 3) := by decide +kernel
theorem dX7_whyNotFound_31 : decode cX7_whyNotFound 31 = .ok (.aload_n 2, 1) := by decide +kernel
theorem dX7_whyNotFound_32 : decode cX7_whyNotFound 32 = .ok (.getfield 132, 3) := by decide +kernel
theorem dX7_whyNotFound_35 : decode cX7_whyNotFound 35 = .ok (.invokevirtual 177, 3) := by decide +kernel
theorem dX7_whyNotFound_38 : decode cX7_whyNotFound 38 = .ok (.ifCond .ne 5, 3) := by decide +kernel
theorem dX7_whyNotFound_41 : decode cX7_whyNotFound 41 = .ok (.iconst 3, 1) := by decide +kernel
theorem dX7_whyNotFound_42 : decode cX7_whyNotFound 42 = .ok (.ireturn, 1) := by decide +kernel
theorem dX7_whyNotFound_43 : decode cX7_whyNotFound 43 = .ok (.aload_n 2, 1) := by decide +kernel
theorem dX7_whyNotFound_44 : decode cX7_whyNotFound 44 = .ok (.getfield 142, 3) := by decide +kernel
theorem dX7_whyNotFound_47 : decode cX7_whyNotFound 47 = .ok (.aload_n 2, 1) := by decide +kernel
theorem dX7_whyNotFound_48 : decode cX7_whyNotFound 48 = .ok (.getfield 171, 3) := by decide +kernel
theorem dX7_whyNotFound_51 : decode cX7_whyNotFound 51 = .ok (.if_icmp .ne 7, 3) := by decide +kernel
theorem dX7_whyNotFound_54 : decode cX7_whyNotFound 54 = .ok (.iconst 0, 1) := by decide +kernel
theorem dX7_whyNotFound_55 : decode cX7_whyNotFound 55 = .ok (.goto 4, 3) := by decide +kernel
theorem dX7_whyNotFound_58 : decode cX7_whyNotFound 58 = .ok (.iconst 4, 1) := by decide +kernel
theorem dX7_whyNotFound_59 : decode cX7_whyNotFound 59 = .ok (.ireturn, 1) := by decide +kernel
theorem dX7_priceOfCalling_0 : decode cX7_priceOfCalling 0 = .ok (.aload_n 0, 1) := by decide +kernel
theorem dX7_priceOfCalling_1 : decode cX7_priceOfCalling 1 = .ok (.aload_n 1, 1) := by decide +kernel
theorem dX7_priceOfCalling_2 : decode cX7_priceOfCalling 2 = .ok (.getfield 292, 3) := by decide +kernel
theorem dX7_priceOfCalling_5 : decode cX7_priceOfCalling 5 = .ok (.invokevirtual 66, 3) := by decide +kernel
theorem dX7_priceOfCalling_8 : decode cX7_priceOfCalling 8 = .ok (.astore_n 2, 1) := by decide +kernel
theorem dX7_priceOfCalling_9 : decode cX7_priceOfCalling 9 = .ok (.aload_n 1, 1) := by decide +kernel
theorem dX7_priceOfCalling_10 : decode cX7_priceOfCalling 10 = .ok (.invokevirtual 317, 3) := by decide +kernel
theorem dX7_priceOfCalling_13 : decode cX7_priceOfCalling 13 = .ok (.ifCond .eq 10, 3) := by decide +kernel
theorem dX7_priceOfCalling_16 : decode cX7_priceOfCalling 16 = .ok (.aload_n 2, 1) := by decide +kernel
theorem dX7_priceOfCalling_17 : decode cX7_priceOfCalling 17 = .ok (.getfield 114, 3) := by decide +kernel
theorem dX7_priceOfCalling_20 : decode cX7_priceOfCalling 20 = .ok (.goto 7, 3) := by decide +kernel
theorem dX7_priceOfCalling_23 : decode cX7_priceOfCalling 23 = .ok (.aload_n 2, 1) := by decide +kernel
theorem dX7_priceOfCalling_24 : decode cX7_priceOfCalling 24 = .ok (.getfield 111, 3) := by decide +kernel
theorem dX7_priceOfCalling_27 : decode cX7_priceOfCalling 27 = .ok (.ireturn, 1) := by decide +kernel
theorem dX7_priceOfBeingCalled_0 : decode cX7_priceOfBeingCalled 0 = .ok (.aload_n 1, 1) := by decide +kernel
theorem dX7_priceOfBeingCalled_1 : decode cX7_priceOfBeingCalled 1 = .ok (.invokevirtual 317, 3) := by decide +kernel
theorem dX7_priceOfBeingCalled_4 : decode cX7_priceOfBeingCalled 4 = .ok (.ifCond .eq 17, 3) := by decide +kernel
theorem dX7_priceOfBeingCalled_7 : decode cX7_priceOfBeingCalled 7 = .ok (.aload_n 0, 1) := by decide +kernel
theorem dX7_priceOfBeingCalled_8 : decode cX7_priceOfBeingCalled 8 = .ok (.aload_n 1, 1) := by decide +kernel
theorem dX7_priceOfBeingCalled_9 : decode cX7_priceOfBeingCalled 9 = .ok (.getfield 292, 3) := by decide +kernel
theorem dX7_priceOfBeingCalled_12 : decode cX7_priceOfBeingCalled 12 = .ok (.invokevirtual 66, 3) := by decide +kernel
theorem dX7_priceOfBeingCalled_15 : decode cX7_priceOfBeingCalled 15 = .ok (.getfield 117, 3) := by decide +kernel
theorem dX7_priceOfBeingCalled_18 : decode cX7_priceOfBeingCalled 18 = .ok (.goto 4, 3) := by decide +kernel
theorem dX7_priceOfBeingCalled_21 : decode cX7_priceOfBeingCalled 21 = .ok (.iconst 0, 1) := by decide +kernel
theorem dX7_priceOfBeingCalled_22 : decode cX7_priceOfBeingCalled 22 = .ok (.ireturn, 1) := by decide +kernel
theorem dX7_settle_0 : decode cX7_settle 0 = .ok (.aload_n 1, 1) := by decide +kernel
theorem dX7_settle_1 : decode cX7_settle 1 = .ok (.dup, 1) := by decide +kernel
theorem dX7_settle_2 : decode cX7_settle 2 = .ok (.getfield 181, 3) := by decide +kernel
theorem dX7_settle_5 : decode cX7_settle 5 = .ok (.iload_n 2, 1) := by decide +kernel
theorem dX7_settle_6 : decode cX7_settle 6 = .ok (.iadd, 1) := by decide +kernel
theorem dX7_settle_7 : decode cX7_settle 7 = .ok (.putfield 181, 3) := by decide +kernel
theorem dX7_settle_10 : decode cX7_settle 10 = .ok (.aload_n 1, 1) := by decide +kernel
theorem dX7_settle_11 : decode cX7_settle 11 = .ok (.invokevirtual 317, 3) := by decide +kernel
theorem dX7_settle_14 : decode cX7_settle 14 = .ok (.ifCond .eq 60, 3) := by decide +kernel
theorem dX7_settle_17 : decode cX7_settle 17 = .ok (.aload_n 1, 1) := by decide +kernel
theorem dX7_settle_18 : decode cX7_settle 18 = .ok (.dup, 1) := by decide +kernel
theorem dX7_settle_19 : decode cX7_settle 19 = .ok (.getfield 184, 3) := by decide +kernel
theorem dX7_settle_22 : decode cX7_settle 22 = .ok (.iload_n 2, 1) := by decide +kernel
theorem dX7_settle_23 : decode cX7_settle 23 = .ok (.iadd, 1) := by decide +kernel
theorem dX7_settle_24 : decode cX7_settle 24 = .ok (.putfield 184, 3) := by decide +kernel
theorem dX7_settle_27 : decode cX7_settle 27 = .ok (.aload_n 0, 1) := by decide +kernel
theorem dX7_settle_28 : decode cX7_settle 28 = .ok (.aload_n 1, 1) := by decide +kernel
theorem dX7_settle_29 : decode cX7_settle 29 = .ok (.getfield 292, 3) := by decide +kernel
theorem dX7_settle_32 : decode cX7_settle 32 = .ok (.aload_n 1, 1) := by decide +kernel
theorem dX7_settle_33 : decode cX7_settle 33 = .ok (.getfield 142, 3) := by decide +kernel
theorem dX7_settle_36 : decode cX7_settle 36 = .ok (.invokevirtual 295, 3) := by decide +kernel
theorem dX7_settle_39 : decode cX7_settle 39 = .ok (.astore 4, 2) := by decide +kernel
theorem dX7_settle_41 : decode cX7_settle 41 = .ok (.aload_n 0, 1) := by decide +kernel
theorem dX7_settle_42 : decode cX7_settle 42 = .ok (.aload_n 1, 1) := by decide +kernel
theorem dX7_settle_43 : decode cX7_settle 43 = .ok (.getfield 142, 3) := by decide +kernel
theorem dX7_settle_46 : decode cX7_settle 46 = .ok (.aload_n 1, 1) := by decide +kernel
theorem dX7_settle_47 : decode cX7_settle 47 = .ok (.getfield 292, 3) := by decide +kernel
theorem dX7_settle_50 : decode cX7_settle 50 = .ok (.invokevirtual 228, 3) := by decide +kernel
theorem dX7_settle_53 : decode cX7_settle 53 = .ok (.getfield 320, 3) := by decide +kernel
theorem dX7_settle_56 : decode cX7_settle 56 = .ok (.new 323, 3) := by decide +kernel
theorem dX7_settle_59 : decode cX7_settle 59 = .ok (.dup, 1) := by decide +kernel
theorem dX7_settle_60 : decode cX7_settle 60 = .ok (.iload_n 3, 1) := by decide +kernel
theorem dX7_settle_61 : decode cX7_settle 61 = .ok (.aload_n 0, 1) := by decide +kernel
theorem dX7_settle_62 : decode cX7_settle 62 = .ok (.getfield 160, 3) := by decide +kernel
theorem dX7_settle_65 : decode cX7_settle 65 = .ok (.aload 4, 2) := by decide +kernel
theorem dX7_settle_67 : decode cX7_settle 67 = .ok (.invokespecial 325, 3) := by decide +kernel
theorem dX7_settle_70 : decode cX7_settle 70 = .ok (.invokevirtual 104, 3) := by decide +kernel
theorem dX7_settle_73 : decode cX7_settle 73 = .ok (.pop, 1) := by decide +kernel
theorem dX7_settle_74 : decode cX7_settle 74 = .ok (.return_, 1) := by decide +kernel
theorem dJ9_max_7cf53_0 : decode cJ9_max_7cf53 0 = .ok (.iload_n 0, 1) := by decide +kernel
theorem dJ9_max_7cf53_1 : decode cJ9_max_7cf53 1 = .ok (.iload_n 1, 1) := by decide +kernel
theorem dJ9_max_7cf53_2 : decode cJ9_max_7cf53 2 = .ok (.if_icmp .lt 7, 3) := by decide +kernel
theorem dJ9_max_7cf53_5 : decode cJ9_max_7cf53 5 = .ok (.iload_n 0, 1) := by decide +kernel
theorem dJ9_max_7cf53_6 : decode cJ9_max_7cf53 6 = .ok (.goto 4, 3) := by decide +kernel
theorem dJ9_max_7cf53_9 : decode cJ9_max_7cf53 9 = .ok (.iload_n 1, 1) := by decide +kernel
theorem dJ9_max_7cf53_10 : decode cJ9_max_7cf53 10 = .ok (.ireturn, 1) := by decide +kernel
theorem dJ9_min_7cf53_0 : decode cJ9_min_7cf53 0 = .ok (.iload_n 0, 1) := by decide +kernel
theorem dJ9_min_7cf53_1 : decode cJ9_min_7cf53 1 = .ok (.iload_n 1, 1) := by decide +kernel
theorem dJ9_min_7cf53_2 : decode cJ9_min_7cf53 2 = .ok (.if_icmp .gt 7, 3) := by decide +kernel
theorem dJ9_min_7cf53_5 : decode cJ9_min_7cf53 5 = .ok (.iload_n 0, 1) := by decide +kernel
theorem dJ9_min_7cf53_6 : decode cJ9_min_7cf53 6 = .ok (.goto 4, 3) := by decide +kernel
theorem dJ9_min_7cf53_9 : decode cJ9_min_7cf53 9 = .ok (.iload_n 1, 1) := by decide +kernel
theorem dJ9_min_7cf53_10 : decode cJ9_min_7cf53 10 = .ok (.ireturn, 1) := by decide +kernel
theorem dJxa1e45_init_da8c8_0 : decode cJxa1e45_init_da8c8 0 = .ok (.aload_n 0, 1) := by decide +kernel
theorem dJxa1e45_init_da8c8_1 : decode cJxa1e45_init_da8c8 1 = .ok (.invokespecial 1, 3) := by decide +kernel
theorem dJxa1e45_init_da8c8_4 : decode cJxa1e45_init_da8c8 4 = .ok (.return_, 1) := by decide +kernel
theorem dJxc12de_init_da8c8_0 : decode cJxc12de_init_da8c8 0 = .ok (.aload_n 0, 1) := by decide +kernel
theorem dJxc12de_init_da8c8_1 : decode cJxc12de_init_da8c8 1 = .ok (.invokespecial 1, 3) := by decide +kernel
theorem dJxc12de_init_da8c8_4 : decode cJxc12de_init_da8c8 4 = .ok (.aload_n 0, 1) := by decide +kernel
theorem dJxc12de_init_da8c8_5 : decode cJxc12de_init_da8c8 5 = .ok (.iconst 0, 1) := by decide +kernel
theorem dJxc12de_init_da8c8_6 : decode cJxc12de_init_da8c8 6 = .ok (.putfield 7, 3) := by decide +kernel
theorem dJxc12de_init_da8c8_9 : decode cJxc12de_init_da8c8 9 = .ok (.return_, 1) := by decide +kernel
theorem dJx4a65c_init_da8c8_0 : decode cJx4a65c_init_da8c8 0 = .ok (.aload_n 0, 1) := by decide +kernel
theorem dJx4a65c_init_da8c8_1 : decode cJx4a65c_init_da8c8 1 = .ok (.invokespecial 1, 3) := by decide +kernel
theorem dJx4a65c_init_da8c8_4 : decode cJx4a65c_init_da8c8 4 = .ok (.aload_n 0, 1) := by decide +kernel
theorem dJx4a65c_init_da8c8_5 : decode cJx4a65c_init_da8c8 5 = .ok (.getstatic 39, 3) := by decide +kernel
theorem dJx4a65c_init_da8c8_8 : decode cJx4a65c_init_da8c8 8 = .ok (.putfield 9, 3) := by decide +kernel
theorem dJx4a65c_init_da8c8_11 : decode cJx4a65c_init_da8c8 11 = .ok (.return_, 1) := by decide +kernel
theorem dJx4a65c_grow_92f84_0 : decode cJx4a65c_grow_92f84 0 = .ok (.aload_n 0, 1) := by decide +kernel
theorem dJx4a65c_grow_92f84_1 : decode cJx4a65c_grow_92f84 1 = .ok (.getfield 9, 3) := by decide +kernel
theorem dJx4a65c_grow_92f84_4 : decode cJx4a65c_grow_92f84 4 = .ok (.arraylength, 1) := by decide +kernel
theorem dJx4a65c_grow_92f84_5 : decode cJx4a65c_grow_92f84 5 = .ok (.istore_n 2, 1) := by decide +kernel
theorem dJx4a65c_grow_92f84_6 : decode cJx4a65c_grow_92f84 6 = .ok (.iload_n 2, 1) := by decide +kernel
theorem dJx4a65c_grow_92f84_7 : decode cJx4a65c_grow_92f84 7 = .ok (.ifCond .gt 13, 3) := by decide +kernel
theorem dJx4a65c_grow_92f84_10 : decode cJx4a65c_grow_92f84 10 = .ok (.aload_n 0, 1) := by decide +kernel
theorem dJx4a65c_grow_92f84_11 : decode cJx4a65c_grow_92f84 11 = .ok (.getfield 9, 3) := by decide +kernel
theorem dJx4a65c_grow_92f84_14 : decode cJx4a65c_grow_92f84 14 = .ok (.getstatic 39, 3) := by decide +kernel
theorem dJx4a65c_grow_92f84_17 : decode cJx4a65c_grow_92f84 17 = .ok (.if_acmp .eq 28, 3) := by decide +kernel
theorem dJx4a65c_grow_92f84_20 : decode cJx4a65c_grow_92f84 20 = .ok (.iload_n 2, 1) := by decide +kernel
theorem dJx4a65c_grow_92f84_21 : decode cJx4a65c_grow_92f84 21 = .ok (.iload_n 1, 1) := by decide +kernel
theorem dJx4a65c_grow_92f84_22 : decode cJx4a65c_grow_92f84 22 = .ok (.iload_n 2, 1) := by decide +kernel
theorem dJx4a65c_grow_92f84_23 : decode cJx4a65c_grow_92f84 23 = .ok (.isub, 1) := by decide +kernel
theorem dJx4a65c_grow_92f84_24 : decode cJx4a65c_grow_92f84 24 = .ok (.iload_n 2, 1) := by decide +kernel
theorem dJx4a65c_grow_92f84_25 : decode cJx4a65c_grow_92f84 25 = .ok (.iconst 1, 1) := by decide +kernel
theorem dJx4a65c_grow_92f84_26 : decode cJx4a65c_grow_92f84 26 = .ok (.ishr, 1) := by decide +kernel
theorem dJx4a65c_grow_92f84_27 : decode cJx4a65c_grow_92f84 27 = .ok (.invokestatic 73, 3) := by decide +kernel
theorem dJx4a65c_grow_92f84_30 : decode cJx4a65c_grow_92f84 30 = .ok (.istore_n 3, 1) := by decide +kernel
theorem dJx4a65c_grow_92f84_31 : decode cJx4a65c_grow_92f84 31 = .ok (.aload_n 0, 1) := by decide +kernel
theorem dJx4a65c_grow_92f84_32 : decode cJx4a65c_grow_92f84 32 = .ok (.aload_n 0, 1) := by decide +kernel
theorem dJx4a65c_grow_92f84_33 : decode cJx4a65c_grow_92f84 33 = .ok (.getfield 9, 3) := by decide +kernel
theorem dJx4a65c_grow_92f84_36 : decode cJx4a65c_grow_92f84 36 = .ok (.iload_n 3, 1) := by decide +kernel
theorem dJx4a65c_grow_92f84_37 : decode cJx4a65c_grow_92f84 37 = .ok (.invokestatic 66, 3) := by decide +kernel
theorem dJx4a65c_grow_92f84_40 : decode cJx4a65c_grow_92f84 40 = .ok (.dup_x1, 1) := by decide +kernel
theorem dJx4a65c_grow_92f84_41 : decode cJx4a65c_grow_92f84 41 = .ok (.putfield 9, 3) := by decide +kernel
theorem dJx4a65c_grow_92f84_44 : decode cJx4a65c_grow_92f84 44 = .ok (.areturn, 1) := by decide +kernel
theorem dJx4a65c_grow_92f84_45 : decode cJx4a65c_grow_92f84 45 = .ok (.aload_n 0, 1) := by decide +kernel
theorem dJx4a65c_grow_92f84_46 : decode cJx4a65c_grow_92f84 46 = .ok (.bipush 10, 2) := by decide +kernel
theorem dJx4a65c_grow_92f84_48 : decode cJx4a65c_grow_92f84 48 = .ok (.iload_n 1, 1) := by decide +kernel
theorem dJx4a65c_grow_92f84_49 : decode cJx4a65c_grow_92f84 49 = .ok (.invokestatic 79, 3) := by decide +kernel
theorem dJx4a65c_grow_92f84_52 : decode cJx4a65c_grow_92f84 52 = .ok (.anewarray 7, 3) := by decide +kernel
theorem dJx4a65c_grow_92f84_55 : decode cJx4a65c_grow_92f84 55 = .ok (.dup_x1, 1) := by decide +kernel
theorem dJx4a65c_grow_92f84_56 : decode cJx4a65c_grow_92f84 56 = .ok (.putfield 9, 3) := by decide +kernel
theorem dJx4a65c_grow_92f84_59 : decode cJx4a65c_grow_92f84 59 = .ok (.areturn, 1) := by decide +kernel
theorem dJx4a65c_grow_d5877_0 : decode cJx4a65c_grow_d5877 0 = .ok (.aload_n 0, 1) := by decide +kernel
theorem dJx4a65c_grow_d5877_1 : decode cJx4a65c_grow_d5877 1 = .ok (.aload_n 0, 1) := by decide +kernel
theorem dJx4a65c_grow_d5877_2 : decode cJx4a65c_grow_d5877 2 = .ok (.getfield 48, 3) := by decide +kernel
theorem dJx4a65c_grow_d5877_5 : decode cJx4a65c_grow_d5877 5 = .ok (.iconst 1, 1) := by decide +kernel
theorem dJx4a65c_grow_d5877_6 : decode cJx4a65c_grow_d5877 6 = .ok (.iadd, 1) := by decide +kernel
theorem dJx4a65c_grow_d5877_7 : decode cJx4a65c_grow_d5877 7 = .ok (.invokevirtual 69, 3) := by decide +kernel
theorem dJx4a65c_grow_d5877_10 : decode cJx4a65c_grow_d5877 10 = .ok (.areturn, 1) := by decide +kernel
theorem dJx4a65c_size_8abf5_0 : decode cJx4a65c_size_8abf5 0 = .ok (.aload_n 0, 1) := by decide +kernel
theorem dJx4a65c_size_8abf5_1 : decode cJx4a65c_size_8abf5 1 = .ok (.getfield 48, 3) := by decide +kernel
theorem dJx4a65c_size_8abf5_4 : decode cJx4a65c_size_8abf5 4 = .ok (.ireturn, 1) := by decide +kernel
theorem dJx4a65c_elementData_915e3_0 : decode cJx4a65c_elementData_915e3 0 = .ok (.aload_n 0, 1) := by decide +kernel
theorem dJx4a65c_elementData_915e3_1 : decode cJx4a65c_elementData_915e3 1 = .ok (.getfield 9, 3) := by decide +kernel
theorem dJx4a65c_elementData_915e3_4 : decode cJx4a65c_elementData_915e3 4 = .ok (.iload_n 1, 1) := by decide +kernel
theorem dJx4a65c_elementData_915e3_5 : decode cJx4a65c_elementData_915e3 5 = .ok (.aaload, 1) := by decide +kernel
theorem dJx4a65c_elementData_915e3_6 : decode cJx4a65c_elementData_915e3 6 = .ok (.areturn, 1) := by decide +kernel
theorem dJx4a65c_get_915e3_0 : decode cJx4a65c_get_915e3 0 = .ok (.iload_n 1, 1) := by decide +kernel
theorem dJx4a65c_get_915e3_1 : decode cJx4a65c_get_915e3 1 = .ok (.aload_n 0, 1) := by decide +kernel
theorem dJx4a65c_get_915e3_2 : decode cJx4a65c_get_915e3 2 = .ok (.getfield 48, 3) := by decide +kernel
theorem dJx4a65c_get_915e3_5 : decode cJx4a65c_get_915e3 5 = .ok (.invokestatic 118, 3) := by decide +kernel
theorem dJx4a65c_get_915e3_8 : decode cJx4a65c_get_915e3 8 = .ok (.pop, 1) := by decide +kernel
theorem dJx4a65c_get_915e3_9 : decode cJx4a65c_get_915e3 9 = .ok (.aload_n 0, 1) := by decide +kernel
theorem dJx4a65c_get_915e3_10 : decode cJx4a65c_get_915e3 10 = .ok (.iload_n 1, 1) := by decide +kernel
theorem dJx4a65c_get_915e3_11 : decode cJx4a65c_get_915e3 11 = .ok (.invokevirtual 123, 3) := by decide +kernel
theorem dJx4a65c_get_915e3_14 : decode cJx4a65c_get_915e3 14 = .ok (.areturn, 1) := by decide +kernel
theorem dJx4a65c_add_72be8_0 : decode cJx4a65c_add_72be8 0 = .ok (.iload_n 3, 1) := by decide +kernel
theorem dJx4a65c_add_72be8_1 : decode cJx4a65c_add_72be8 1 = .ok (.aload_n 2, 1) := by decide +kernel
theorem dJx4a65c_add_72be8_2 : decode cJx4a65c_add_72be8 2 = .ok (.arraylength, 1) := by decide +kernel
theorem dJx4a65c_add_72be8_3 : decode cJx4a65c_add_72be8 3 = .ok (.if_icmp .ne 8, 3) := by decide +kernel
theorem dJx4a65c_add_72be8_6 : decode cJx4a65c_add_72be8 6 = .ok (.aload_n 0, 1) := by decide +kernel
theorem dJx4a65c_add_72be8_7 : decode cJx4a65c_add_72be8 7 = .ok (.invokevirtual 129, 3) := by decide +kernel
theorem dJx4a65c_add_72be8_10 : decode cJx4a65c_add_72be8 10 = .ok (.astore_n 2, 1) := by decide +kernel
theorem dJx4a65c_add_72be8_11 : decode cJx4a65c_add_72be8 11 = .ok (.aload_n 2, 1) := by decide +kernel
theorem dJx4a65c_add_72be8_12 : decode cJx4a65c_add_72be8 12 = .ok (.iload_n 3, 1) := by decide +kernel
theorem dJx4a65c_add_72be8_13 : decode cJx4a65c_add_72be8 13 = .ok (.aload_n 1, 1) := by decide +kernel
theorem dJx4a65c_add_72be8_14 : decode cJx4a65c_add_72be8 14 = .ok (.aastore, 1) := by decide +kernel
theorem dJx4a65c_add_72be8_15 : decode cJx4a65c_add_72be8 15 = .ok (.aload_n 0, 1) := by decide +kernel
theorem dJx4a65c_add_72be8_16 : decode cJx4a65c_add_72be8 16 = .ok (.iload_n 3, 1) := by decide +kernel
theorem dJx4a65c_add_72be8_17 : decode cJx4a65c_add_72be8 17 = .ok (.iconst 1, 1) := by decide +kernel
theorem dJx4a65c_add_72be8_18 : decode cJx4a65c_add_72be8 18 = .ok (.iadd, 1) := by decide +kernel
theorem dJx4a65c_add_72be8_19 : decode cJx4a65c_add_72be8 19 = .ok (.putfield 48, 3) := by decide +kernel
theorem dJx4a65c_add_72be8_22 : decode cJx4a65c_add_72be8 22 = .ok (.return_, 1) := by decide +kernel
theorem dJx4a65c_add_9ea2d_0 : decode cJx4a65c_add_9ea2d 0 = .ok (.aload_n 0, 1) := by decide +kernel
theorem dJx4a65c_add_9ea2d_1 : decode cJx4a65c_add_9ea2d 1 = .ok (.dup, 1) := by decide +kernel
theorem dJx4a65c_add_9ea2d_2 : decode cJx4a65c_add_9ea2d 2 = .ok (.getfield 63, 3) := by decide +kernel
theorem dJx4a65c_add_9ea2d_5 : decode cJx4a65c_add_9ea2d 5 = .ok (.iconst 1, 1) := by decide +kernel
theorem dJx4a65c_add_9ea2d_6 : decode cJx4a65c_add_9ea2d 6 = .ok (.iadd, 1) := by decide +kernel
theorem dJx4a65c_add_9ea2d_7 : decode cJx4a65c_add_9ea2d 7 = .ok (.putfield 63, 3) := by decide +kernel
theorem dJx4a65c_add_9ea2d_10 : decode cJx4a65c_add_9ea2d 10 = .ok (.aload_n 0, 1) := by decide +kernel
theorem dJx4a65c_add_9ea2d_11 : decode cJx4a65c_add_9ea2d 11 = .ok (.aload_n 1, 1) := by decide +kernel
theorem dJx4a65c_add_9ea2d_12 : decode cJx4a65c_add_9ea2d 12 = .ok (.aload_n 0, 1) := by decide +kernel
theorem dJx4a65c_add_9ea2d_13 : decode cJx4a65c_add_9ea2d 13 = .ok (.getfield 9, 3) := by decide +kernel
theorem dJx4a65c_add_9ea2d_16 : decode cJx4a65c_add_9ea2d 16 = .ok (.aload_n 0, 1) := by decide +kernel
theorem dJx4a65c_add_9ea2d_17 : decode cJx4a65c_add_9ea2d 17 = .ok (.getfield 48, 3) := by decide +kernel
theorem dJx4a65c_add_9ea2d_20 : decode cJx4a65c_add_9ea2d 20 = .ok (.invokevirtual 131, 3) := by decide +kernel
theorem dJx4a65c_add_9ea2d_23 : decode cJx4a65c_add_9ea2d 23 = .ok (.iconst 1, 1) := by decide +kernel
theorem dJx4a65c_add_9ea2d_24 : decode cJx4a65c_add_9ea2d 24 = .ok (.ireturn, 1) := by decide +kernel
theorem dJ7_fill_53178_0 : decode cJ7_fill_53178 0 = .ok (.iconst 0, 1) := by decide +kernel
theorem dJ7_fill_53178_1 : decode cJ7_fill_53178 1 = .ok (.istore_n 2, 1) := by decide +kernel
theorem dJ7_fill_53178_2 : decode cJ7_fill_53178 2 = .ok (.aload_n 0, 1) := by decide +kernel
theorem dJ7_fill_53178_3 : decode cJ7_fill_53178 3 = .ok (.arraylength, 1) := by decide +kernel
theorem dJ7_fill_53178_4 : decode cJ7_fill_53178 4 = .ok (.istore_n 3, 1) := by decide +kernel
theorem dJ7_fill_53178_5 : decode cJ7_fill_53178 5 = .ok (.iload_n 2, 1) := by decide +kernel
theorem dJ7_fill_53178_6 : decode cJ7_fill_53178 6 = .ok (.iload_n 3, 1) := by decide +kernel
theorem dJ7_fill_53178_7 : decode cJ7_fill_53178 7 = .ok (.if_icmp .ge 13, 3) := by decide +kernel
theorem dJ7_fill_53178_10 : decode cJ7_fill_53178 10 = .ok (.aload_n 0, 1) := by decide +kernel
theorem dJ7_fill_53178_11 : decode cJ7_fill_53178 11 = .ok (.iload_n 2, 1) := by decide +kernel
theorem dJ7_fill_53178_12 : decode cJ7_fill_53178 12 = .ok (.iload_n 1, 1) := by decide +kernel
theorem dJ7_fill_53178_13 : decode cJ7_fill_53178 13 = .ok (.iastore, 1) := by decide +kernel
theorem dJ7_fill_53178_14 : decode cJ7_fill_53178 14 = .ok (.iinc 2 1, 3) := by decide +kernel
theorem dJ7_fill_53178_17 : decode cJ7_fill_53178 17 = .ok (.goto (-12), 3) := by decide +kernel
theorem dJ7_fill_53178_20 : decode cJ7_fill_53178 20 = .ok (.return_, 1) := by decide +kernel
theorem dJ7_copyOf_1904c_0 : decode cJ7_copyOf_1904c 0 = .ok (.aload_n 0, 1) := by decide +kernel
theorem dJ7_copyOf_1904c_1 : decode cJ7_copyOf_1904c 1 = .ok (.iload_n 1, 1) := by decide +kernel
theorem dJ7_copyOf_1904c_2 : decode cJ7_copyOf_1904c 2 = .ok (.aload_n 0, 1) := by decide +kernel
theorem dJ7_copyOf_1904c_3 : decode cJ7_copyOf_1904c 3 = .ok (.invokevirtual 86, 3) := by decide +kernel
theorem dJ7_copyOf_1904c_6 : decode cJ7_copyOf_1904c 6 = .ok (.invokestatic 300, 3) := by decide +kernel
theorem dJ7_copyOf_1904c_9 : decode cJ7_copyOf_1904c 9 = .ok (.areturn, 1) := by decide +kernel
theorem dJ7_copyOf_6403c_0 : decode cJ7_copyOf_6403c 0 = .ok (.aload_n 2, 1) := by decide +kernel
theorem dJ7_copyOf_6403c_1 : decode cJ7_copyOf_6403c 1 = .ok (.ldc 110, 2) := by decide +kernel
theorem dJ7_copyOf_6403c_3 : decode cJ7_copyOf_6403c 3 = .ok (.if_acmp .ne 10, 3) := by decide +kernel
theorem dJ7_copyOf_6403c_6 : decode cJ7_copyOf_6403c 6 = .ok (.iload_n 1, 1) := by decide +kernel
theorem dJ7_copyOf_6403c_7 : decode cJ7_copyOf_6403c 7 = .ok (.anewarray 2, 3) := by decide +kernel
theorem dJ7_copyOf_6403c_10 : decode cJ7_copyOf_6403c 10 = .ok (.goto 14, 3) := by decide +kernel
theorem dJ7_copyOf_6403c_13 : decode cJ7_copyOf_6403c 13 = .ok (.aload_n 2, 1) := by decide +kernel
theorem dJ7_copyOf_6403c_14 : decode cJ7_copyOf_6403c 14 = .ok (.invokevirtual 90, 3) := by decide +kernel
theorem dJ7_copyOf_6403c_17 : decode cJ7_copyOf_6403c 17 = .ok (.iload_n 1, 1) := by decide +kernel
theorem dJ7_copyOf_6403c_18 : decode cJ7_copyOf_6403c 18 = .ok (.invokestatic 95, 3) := by decide +kernel
theorem dJ7_copyOf_6403c_21 : decode cJ7_copyOf_6403c 21 = .ok (.checkcast 110, 3) := by decide +kernel
theorem dJ7_copyOf_6403c_24 : decode cJ7_copyOf_6403c 24 = .ok (.astore_n 3, 1) := by decide +kernel
theorem dJ7_copyOf_6403c_25 : decode cJ7_copyOf_6403c 25 = .ok (.aload_n 0, 1) := by decide +kernel
theorem dJ7_copyOf_6403c_26 : decode cJ7_copyOf_6403c 26 = .ok (.iconst 0, 1) := by decide +kernel
theorem dJ7_copyOf_6403c_27 : decode cJ7_copyOf_6403c 27 = .ok (.aload_n 3, 1) := by decide +kernel
theorem dJ7_copyOf_6403c_28 : decode cJ7_copyOf_6403c 28 = .ok (.iconst 0, 1) := by decide +kernel
theorem dJ7_copyOf_6403c_29 : decode cJ7_copyOf_6403c 29 = .ok (.aload_n 0, 1) := by decide +kernel
theorem dJ7_copyOf_6403c_30 : decode cJ7_copyOf_6403c 30 = .ok (.arraylength, 1) := by decide +kernel
theorem dJ7_copyOf_6403c_31 : decode cJ7_copyOf_6403c 31 = .ok (.iload_n 1, 1) := by decide +kernel
theorem dJ7_copyOf_6403c_32 : decode cJ7_copyOf_6403c 32 = .ok (.invokestatic 304, 3) := by decide +kernel
theorem dJ7_copyOf_6403c_35 : decode cJ7_copyOf_6403c 35 = .ok (.invokestatic 150, 3) := by decide +kernel
theorem dJ7_copyOf_6403c_38 : decode cJ7_copyOf_6403c 38 = .ok (.aload_n 3, 1) := by decide +kernel
theorem dJ7_copyOf_6403c_39 : decode cJ7_copyOf_6403c 39 = .ok (.areturn, 1) := by decide +kernel
theorem dJ15_checkIndex_7cf53_0 : decode cJ15_checkIndex_7cf53 0 = .ok (.iload_n 0, 1) := by decide +kernel
theorem dJ15_checkIndex_7cf53_1 : decode cJ15_checkIndex_7cf53 1 = .ok (.iload_n 1, 1) := by decide +kernel
theorem dJ15_checkIndex_7cf53_2 : decode cJ15_checkIndex_7cf53 2 = .ok (.aconst_null, 1) := by decide +kernel
theorem dJ15_checkIndex_7cf53_3 : decode cJ15_checkIndex_7cf53 3 = .ok (.invokestatic 105, 3) := by decide +kernel
theorem dJ15_checkIndex_7cf53_6 : decode cJ15_checkIndex_7cf53 6 = .ok (.ireturn, 1) := by decide +kernel
theorem dJ8_newLength_cabcc_0 : decode cJ8_newLength_cabcc 0 = .ok (.iload_n 0, 1) := by decide +kernel
theorem dJ8_newLength_cabcc_1 : decode cJ8_newLength_cabcc 1 = .ok (.iload_n 1, 1) := by decide +kernel
theorem dJ8_newLength_cabcc_2 : decode cJ8_newLength_cabcc 2 = .ok (.iload_n 2, 1) := by decide +kernel
theorem dJ8_newLength_cabcc_3 : decode cJ8_newLength_cabcc 3 = .ok (.invokestatic 194, 3) := by decide +kernel
theorem dJ8_newLength_cabcc_6 : decode cJ8_newLength_cabcc 6 = .ok (.iadd, 1) := by decide +kernel
theorem dJ8_newLength_cabcc_7 : decode cJ8_newLength_cabcc 7 = .ok (.istore_n 3, 1) := by decide +kernel
theorem dJ8_newLength_cabcc_8 : decode cJ8_newLength_cabcc 8 = .ok (.iconst 0, 1) := by decide +kernel
theorem dJ8_newLength_cabcc_9 : decode cJ8_newLength_cabcc 9 = .ok (.iload_n 3, 1) := by decide +kernel
theorem dJ8_newLength_cabcc_10 : decode cJ8_newLength_cabcc 10 = .ok (.if_icmp .ge 11, 3) := by decide +kernel
theorem dJ8_newLength_cabcc_13 : decode cJ8_newLength_cabcc 13 = .ok (.iload_n 3, 1) := by decide +kernel
theorem dJ8_newLength_cabcc_14 : decode cJ8_newLength_cabcc 14 = .ok (.ldc 200, 2) := by decide +kernel
theorem dJ8_newLength_cabcc_16 : decode cJ8_newLength_cabcc 16 = .ok (.if_icmp .gt 5, 3) := by decide +kernel
theorem dJ8_newLength_cabcc_19 : decode cJ8_newLength_cabcc 19 = .ok (.iload_n 3, 1) := by decide +kernel
theorem dJ8_newLength_cabcc_20 : decode cJ8_newLength_cabcc 20 = .ok (.ireturn, 1) := by decide +kernel
theorem dJ8_newLength_cabcc_21 : decode cJ8_newLength_cabcc 21 = .ok (.iload_n 0, 1) := by decide +kernel
theorem dJ8_newLength_cabcc_22 : decode cJ8_newLength_cabcc 22 = .ok (.iload_n 1, 1) := by decide +kernel
theorem dJ8_newLength_cabcc_23 : decode cJ8_newLength_cabcc 23 = .ok (.invokestatic 201, 3) := by decide +kernel
theorem dJ8_newLength_cabcc_26 : decode cJ8_newLength_cabcc 26 = .ok (.ireturn, 1) := by decide +kernel
theorem dJ8_hugeLength_7cf53_0 : decode cJ8_hugeLength_7cf53 0 = .ok (.iload_n 0, 1) := by decide +kernel
theorem dJ8_hugeLength_7cf53_1 : decode cJ8_hugeLength_7cf53 1 = .ok (.iload_n 1, 1) := by decide +kernel
theorem dJ8_hugeLength_7cf53_2 : decode cJ8_hugeLength_7cf53 2 = .ok (.iadd, 1) := by decide +kernel
theorem dJ8_hugeLength_7cf53_3 : decode cJ8_hugeLength_7cf53 3 = .ok (.istore_n 2, 1) := by decide +kernel
theorem dJ8_hugeLength_7cf53_4 : decode cJ8_hugeLength_7cf53 4 = .ok (.iload_n 2, 1) := by decide +kernel
theorem dJ8_hugeLength_7cf53_5 : decode cJ8_hugeLength_7cf53 5 = .ok (.ifCond .ge 44, 3) := by decide +kernel
theorem dJ8_hugeLength_7cf53_8 : decode cJ8_hugeLength_7cf53 8 = .ok (.new 204, 3) := by decide +kernel
theorem dJ8_hugeLength_7cf53_11 : decode cJ8_hugeLength_7cf53 11 = .ok (.dup, 1) := by decide +kernel
theorem dJ8_hugeLength_7cf53_12 : decode cJ8_hugeLength_7cf53 12 = .ok (.new 89, 3) := by decide +kernel
theorem dJ8_hugeLength_7cf53_15 : decode cJ8_hugeLength_7cf53 15 = .ok (.dup, 1) := by decide +kernel
theorem dJ8_hugeLength_7cf53_16 : decode cJ8_hugeLength_7cf53 16 = .ok (.invokespecial 91, 3) := by decide +kernel
theorem dJ8_hugeLength_7cf53_19 : decode cJ8_hugeLength_7cf53 19 = .ok (.ldc 206, 2) := by decide +kernel
theorem dJ8_hugeLength_7cf53_21 : decode cJ8_hugeLength_7cf53 21 = .ok (.invokevirtual 94, 3) := by decide +kernel
theorem dJ8_hugeLength_7cf53_24 : decode cJ8_hugeLength_7cf53 24 = .ok (.iload_n 0, 1) := by decide +kernel
theorem dJ8_hugeLength_7cf53_25 : decode cJ8_hugeLength_7cf53 25 = .ok (.invokevirtual 98, 3) := by decide +kernel
theorem dJ8_hugeLength_7cf53_28 : decode cJ8_hugeLength_7cf53 28 = .ok (.ldc 208, 2) := by decide +kernel
theorem dJ8_hugeLength_7cf53_30 : decode cJ8_hugeLength_7cf53 30 = .ok (.invokevirtual 94, 3) := by decide +kernel
theorem dJ8_hugeLength_7cf53_33 : decode cJ8_hugeLength_7cf53 33 = .ok (.iload_n 1, 1) := by decide +kernel
theorem dJ8_hugeLength_7cf53_34 : decode cJ8_hugeLength_7cf53 34 = .ok (.invokevirtual 98, 3) := by decide +kernel
theorem dJ8_hugeLength_7cf53_37 : decode cJ8_hugeLength_7cf53 37 = .ok (.ldc 210, 2) := by decide +kernel
theorem dJ8_hugeLength_7cf53_39 : decode cJ8_hugeLength_7cf53 39 = .ok (.invokevirtual 94, 3) := by decide +kernel
theorem dJ8_hugeLength_7cf53_42 : decode cJ8_hugeLength_7cf53 42 = .ok (.invokevirtual 101, 3) := by decide +kernel
theorem dJ8_hugeLength_7cf53_45 : decode cJ8_hugeLength_7cf53 45 = .ok (.invokespecial 212, 3) := by decide +kernel
theorem dJ8_hugeLength_7cf53_48 : decode cJ8_hugeLength_7cf53 48 = .ok (.athrow, 1) := by decide +kernel
theorem dJ8_hugeLength_7cf53_49 : decode cJ8_hugeLength_7cf53 49 = .ok (.iload_n 2, 1) := by decide +kernel
theorem dJ8_hugeLength_7cf53_50 : decode cJ8_hugeLength_7cf53 50 = .ok (.ldc 200, 2) := by decide +kernel
theorem dJ8_hugeLength_7cf53_52 : decode cJ8_hugeLength_7cf53 52 = .ok (.if_icmp .gt 6, 3) := by decide +kernel
theorem dJ8_hugeLength_7cf53_55 : decode cJ8_hugeLength_7cf53 55 = .ok (.ldc 200, 2) := by decide +kernel
theorem dJ8_hugeLength_7cf53_57 : decode cJ8_hugeLength_7cf53 57 = .ok (.ireturn, 1) := by decide +kernel
theorem dJ8_hugeLength_7cf53_58 : decode cJ8_hugeLength_7cf53 58 = .ok (.iload_n 2, 1) := by decide +kernel
theorem dJ8_hugeLength_7cf53_59 : decode cJ8_hugeLength_7cf53 59 = .ok (.ireturn, 1) := by decide +kernel
theorem dJ3_checkIndex_8e157_0 : decode cJ3_checkIndex_8e157 0 = .ok (.iload_n 0, 1) := by decide +kernel
theorem dJ3_checkIndex_8e157_1 : decode cJ3_checkIndex_8e157 1 = .ok (.ifCond .lt 8, 3) := by decide +kernel
theorem dJ3_checkIndex_8e157_4 : decode cJ3_checkIndex_8e157 4 = .ok (.iload_n 0, 1) := by decide +kernel
theorem dJ3_checkIndex_8e157_5 : decode cJ3_checkIndex_8e157 5 = .ok (.iload_n 1, 1) := by decide +kernel
theorem dJ3_checkIndex_8e157_6 : decode cJ3_checkIndex_8e157 6 = .ok (.if_icmp .lt 10, 3) := by decide +kernel
theorem dJ3_checkIndex_8e157_9 : decode cJ3_checkIndex_8e157 9 = .ok (.aload_n 2, 1) := by decide +kernel
theorem dJ3_checkIndex_8e157_10 : decode cJ3_checkIndex_8e157 10 = .ok (.iload_n 0, 1) := by decide +kernel
theorem dJ3_checkIndex_8e157_11 : decode cJ3_checkIndex_8e157 11 = .ok (.iload_n 1, 1) := by decide +kernel
theorem dJ3_checkIndex_8e157_12 : decode cJ3_checkIndex_8e157 12 = .ok (.invokestatic 95, 3) := by decide +kernel
theorem dJ3_checkIndex_8e157_15 : decode cJ3_checkIndex_8e157 15 = .ok (.athrow, 1) := by decide +kernel
theorem dJ3_checkIndex_8e157_16 : decode cJ3_checkIndex_8e157 16 = .ok (.iload_n 0, 1) := by decide +kernel
theorem dJ3_checkIndex_8e157_17 : decode cJ3_checkIndex_8e157 17 = .ok (.ireturn, 1) := by decide +kernel
end
section
theorem dL_cell_0 : decode cL_cell 0 = .ok (.iload_n 1, 1) := by decide +kernel
theorem dL_cell_1 : decode cL_cell 1 = .ok (.aload_n 0, 1) := by decide +kernel
theorem dL_cell_2 : decode cL_cell 2 = .ok (.arraylength, 1) := by decide +kernel
theorem dL_cell_3 : decode cL_cell 3 = .ok (.if_icmp .ge 9, 3) := by decide +kernel
theorem dL_cell_6 : decode cL_cell 6 = .ok (.aload_n 0, 1) := by decide +kernel
theorem dL_cell_7 : decode cL_cell 7 = .ok (.iload_n 1, 1) := by decide +kernel
theorem dL_cell_8 : decode cL_cell 8 = .ok (.iaload, 1) := by decide +kernel
theorem dL_cell_9 : decode cL_cell 9 = .ok (.goto 10, 3) := by decide +kernel
theorem dL_cell_12 : decode cL_cell 12 = .ok (.ldc 7, 2) := by decide +kernel
theorem dL_cell_14 : decode cL_cell 14 = .ok (.iload_n 1, 1) := by decide +kernel
theorem dL_cell_15 : decode cL_cell 15 = .ok (.bipush 11, 2) := by decide +kernel
theorem dL_cell_17 : decode cL_cell 17 = .ok (.iadd, 1) := by decide +kernel
theorem dL_cell_18 : decode cL_cell 18 = .ok (.imul, 1) := by decide +kernel
theorem dL_cell_19 : decode cL_cell 19 = .ok (.ireturn, 1) := by decide +kernel
theorem dL_low_0 : decode cL_low 0 = .ok (.iload_n 0, 1) := by decide +kernel
theorem dL_low_1 : decode cL_low 1 = .ok (.iconst 1, 1) := by decide +kernel
theorem dL_low_2 : decode cL_low 2 = .ok (.iushr, 1) := by decide +kernel
theorem dL_low_3 : decode cL_low 3 = .ok (.iload_n 1, 1) := by decide +kernel
theorem dL_low_4 : decode cL_low 4 = .ok (.irem, 1) := by decide +kernel
theorem dL_low_5 : decode cL_low 5 = .ok (.ireturn, 1) := by decide +kernel
theorem dL_reach_0 : decode cL_reach 0 = .ok (.aload_n 0, 1) := by decide +kernel
theorem dL_reach_1 : decode cL_reach 1 = .ok (.iload_n 1, 1) := by decide +kernel
theorem dL_reach_2 : decode cL_reach 2 = .ok (.iload_n 2, 1) := by decide +kernel
theorem dL_reach_3 : decode cL_reach 3 = .ok (.invokevirtual 8, 3) := by decide +kernel
theorem dL_reach_6 : decode cL_reach 6 = .ok (.istore_n 3, 1) := by decide +kernel
theorem dL_reach_7 : decode cL_reach 7 = .ok (.goto 15, 3) := by decide +kernel
theorem dL_reach_10 : decode cL_reach 10 = .ok (.astore 4, 2) := by decide +kernel
theorem dL_reach_12 : decode cL_reach 12 = .ok (.sipush (-7100), 3) := by decide +kernel
theorem dL_reach_15 : decode cL_reach 15 = .ok (.ireturn, 1) := by decide +kernel
theorem dL_reach_16 : decode cL_reach 16 = .ok (.astore 4, 2) := by decide +kernel
theorem dL_reach_18 : decode cL_reach 18 = .ok (.sipush (-7200), 3) := by decide +kernel
theorem dL_reach_21 : decode cL_reach 21 = .ok (.ireturn, 1) := by decide +kernel
theorem dL_reach_22 : decode cL_reach 22 = .ok (.iload_n 3, 1) := by decide +kernel
theorem dL_reach_23 : decode cL_reach 23 = .ok (.ireturn, 1) := by decide +kernel
theorem dL_dead_0 : decode cL_dead 0 = .ok (.aload_n 0, 1) := by decide +kernel
theorem dL_dead_1 : decode cL_dead 1 = .ok (.iload_n 1, 1) := by decide +kernel
theorem dL_dead_2 : decode cL_dead 2 = .ok (.iload_n 2, 1) := by decide +kernel
theorem dL_dead_3 : decode cL_dead 3 = .ok (.invokevirtual 18, 3) := by decide +kernel
theorem dL_dead_6 : decode cL_dead 6 = .ok (.istore_n 3, 1) := by decide +kernel
theorem dL_dead_7 : decode cL_dead 7 = .ok (.goto 9, 3) := by decide +kernel
theorem dL_dead_10 : decode cL_dead 10 = .ok (.astore 4, 2) := by decide +kernel
theorem dL_dead_12 : decode cL_dead 12 = .ok (.sipush (-7100), 3) := by decide +kernel
theorem dL_dead_15 : decode cL_dead 15 = .ok (.ireturn, 1) := by decide +kernel
theorem dL_dead_16 : decode cL_dead 16 = .ok (.iload_n 3, 1) := by decide +kernel
theorem dL_dead_17 : decode cL_dead 17 = .ok (.ifCond .eq 7, 3) := by decide +kernel
theorem dL_dead_20 : decode cL_dead 20 = .ok (.iconst 1, 1) := by decide +kernel
theorem dL_dead_21 : decode cL_dead 21 = .ok (.goto 4, 3) := by decide +kernel
theorem dL_dead_24 : decode cL_dead 24 = .ok (.iconst 0, 1) := by decide +kernel
theorem dL_dead_25 : decode cL_dead 25 = .ok (.ireturn, 1) := by decide +kernel
theorem dL_agree_0 : decode cL_agree 0 = .ok (.aload_n 0, 1) := by decide +kernel
theorem dL_agree_1 : decode cL_agree 1 = .ok (.iload_n 1, 1) := by decide +kernel
theorem dL_agree_2 : decode cL_agree 2 = .ok (.iload_n 2, 1) := by decide +kernel
theorem dL_agree_3 : decode cL_agree 3 = .ok (.iload_n 3, 1) := by decide +kernel
theorem dL_agree_4 : decode cL_agree 4 = .ok (.iload 4, 2) := by decide +kernel
theorem dL_agree_6 : decode cL_agree 6 = .ok (.iload 5, 2) := by decide +kernel
theorem dL_agree_8 : decode cL_agree 8 = .ok (.iload 6, 2) := by decide +kernel
theorem dL_agree_10 : decode cL_agree 10 = .ok (.iload 7, 2) := by decide +kernel
theorem dL_agree_12 : decode cL_agree 12 = .ok (.invokevirtual 22, 3) := by decide +kernel
theorem dL_agree_15 : decode cL_agree 15 = .ok (.istore 8, 2) := by decide +kernel
theorem dL_agree_17 : decode cL_agree 17 = .ok (.goto 21, 3) := by decide +kernel
theorem dL_agree_20 : decode cL_agree 20 = .ok (.astore 9, 2) := by decide +kernel
theorem dL_agree_22 : decode cL_agree 22 = .ok (.sipush (-7100), 3) := by decide +kernel
theorem dL_agree_25 : decode cL_agree 25 = .ok (.ireturn, 1) := by decide +kernel
theorem dL_agree_26 : decode cL_agree 26 = .ok (.astore 9, 2) := by decide +kernel
theorem dL_agree_28 : decode cL_agree 28 = .ok (.sipush (-7200), 3) := by decide +kernel
theorem dL_agree_31 : decode cL_agree 31 = .ok (.ireturn, 1) := by decide +kernel
theorem dL_agree_32 : decode cL_agree 32 = .ok (.astore 9, 2) := by decide +kernel
theorem dL_agree_34 : decode cL_agree 34 = .ok (.sipush (-7300), 3) := by decide +kernel
theorem dL_agree_37 : decode cL_agree 37 = .ok (.ireturn, 1) := by decide +kernel
theorem dL_agree_38 : decode cL_agree 38 = .ok (.iload 8, 2) := by decide +kernel
theorem dL_agree_40 : decode cL_agree 40 = .ok (.ireturn, 1) := by decide +kernel
theorem dL_steer_0 : decode cL_steer 0 = .ok (.aload_n 0, 1) := by decide +kernel
theorem dL_steer_1 : decode cL_steer 1 = .ok (.iload_n 1, 1) := by decide +kernel
theorem dL_steer_2 : decode cL_steer 2 = .ok (.iload_n 2, 1) := by decide +kernel
theorem dL_steer_3 : decode cL_steer 3 = .ok (.invokevirtual 28, 3) := by decide +kernel
theorem dL_steer_6 : decode cL_steer 6 = .ok (.istore_n 3, 1) := by decide +kernel
theorem dL_steer_7 : decode cL_steer 7 = .ok (.goto 15, 3) := by decide +kernel
theorem dL_steer_10 : decode cL_steer 10 = .ok (.astore 4, 2) := by decide +kernel
theorem dL_steer_12 : decode cL_steer 12 = .ok (.sipush (-7100), 3) := by decide +kernel
theorem dL_steer_15 : decode cL_steer 15 = .ok (.ireturn, 1) := by decide +kernel
theorem dL_steer_16 : decode cL_steer 16 = .ok (.astore 4, 2) := by decide +kernel
theorem dL_steer_18 : decode cL_steer 18 = .ok (.sipush (-7200), 3) := by decide +kernel
theorem dL_steer_21 : decode cL_steer 21 = .ok (.ireturn, 1) := by decide +kernel
theorem dL_steer_22 : decode cL_steer 22 = .ok (.iload_n 3, 1) := by decide +kernel
theorem dL_steer_23 : decode cL_steer 23 = .ok (.ireturn, 1) := by decide +kernel
theorem dL_prices_0 : decode cL_prices 0 = .ok (.aload_n 0, 1) := by decide +kernel
theorem dL_prices_1 : decode cL_prices 1 = .ok (.iload_n 1, 1) := by decide +kernel
theorem dL_prices_2 : decode cL_prices 2 = .ok (.iload_n 2, 1) := by decide +kernel
theorem dL_prices_3 : decode cL_prices 3 = .ok (.iload_n 3, 1) := by decide +kernel
theorem dL_prices_4 : decode cL_prices 4 = .ok (.iload 4, 2) := by decide +kernel
theorem dL_prices_6 : decode cL_prices 6 = .ok (.invokevirtual 31, 3) := by decide +kernel
theorem dL_prices_9 : decode cL_prices 9 = .ok (.goto 15, 3) := by decide +kernel
theorem dL_prices_12 : decode cL_prices 12 = .ok (.astore 5, 2) := by decide +kernel
theorem dL_prices_14 : decode cL_prices 14 = .ok (.sipush (-7100), 3) := by decide +kernel
theorem dL_prices_17 : decode cL_prices 17 = .ok (.ireturn, 1) := by decide +kernel
theorem dL_prices_18 : decode cL_prices 18 = .ok (.astore 5, 2) := by decide +kernel
theorem dL_prices_20 : decode cL_prices 20 = .ok (.sipush (-7200), 3) := by decide +kernel
theorem dL_prices_23 : decode cL_prices 23 = .ok (.ireturn, 1) := by decide +kernel
theorem dL_prices_24 : decode cL_prices 24 = .ok (.iconst 0, 1) := by decide +kernel
theorem dL_prices_25 : decode cL_prices 25 = .ok (.ireturn, 1) := by decide +kernel
theorem dL_lose_0 : decode cL_lose 0 = .ok (.aload_n 0, 1) := by decide +kernel
theorem dL_lose_1 : decode cL_lose 1 = .ok (.iload_n 1, 1) := by decide +kernel
theorem dL_lose_2 : decode cL_lose 2 = .ok (.iload_n 2, 1) := by decide +kernel
theorem dL_lose_3 : decode cL_lose 3 = .ok (.invokevirtual 35, 3) := by decide +kernel
theorem dL_lose_6 : decode cL_lose 6 = .ok (.istore_n 3, 1) := by decide +kernel
theorem dL_lose_7 : decode cL_lose 7 = .ok (.goto 15, 3) := by decide +kernel
theorem dL_lose_10 : decode cL_lose 10 = .ok (.astore 4, 2) := by decide +kernel
theorem dL_lose_12 : decode cL_lose 12 = .ok (.sipush (-7100), 3) := by decide +kernel
theorem dL_lose_15 : decode cL_lose 15 = .ok (.ireturn, 1) := by decide +kernel
theorem dL_lose_16 : decode cL_lose 16 = .ok (.astore 4, 2) := by decide +kernel
theorem dL_lose_18 : decode cL_lose 18 = .ok (.sipush (-7200), 3) := by decide +kernel
theorem dL_lose_21 : decode cL_lose 21 = .ok (.ireturn, 1) := by decide +kernel
theorem dL_lose_22 : decode cL_lose 22 = .ok (.iload_n 3, 1) := by decide +kernel
theorem dL_lose_23 : decode cL_lose 23 = .ok (.ireturn, 1) := by decide +kernel
theorem dL_crash_0 : decode cL_crash 0 = .ok (.aload_n 0, 1) := by decide +kernel
theorem dL_crash_1 : decode cL_crash 1 = .ok (.iload_n 1, 1) := by decide +kernel
theorem dL_crash_2 : decode cL_crash 2 = .ok (.invokevirtual 38, 3) := by decide +kernel
theorem dL_crash_5 : decode cL_crash 5 = .ok (.istore_n 2, 1) := by decide +kernel
theorem dL_crash_6 : decode cL_crash 6 = .ok (.goto 8, 3) := by decide +kernel
theorem dL_crash_9 : decode cL_crash 9 = .ok (.astore_n 3, 1) := by decide +kernel
theorem dL_crash_10 : decode cL_crash 10 = .ok (.sipush (-7100), 3) := by decide +kernel
theorem dL_crash_13 : decode cL_crash 13 = .ok (.ireturn, 1) := by decide +kernel
theorem dL_crash_14 : decode cL_crash 14 = .ok (.iload_n 2, 1) := by decide +kernel
theorem dL_crash_15 : decode cL_crash 15 = .ok (.ireturn, 1) := by decide +kernel
theorem dL_subscriber_0 : decode cL_subscriber 0 = .ok (.aload_n 0, 1) := by decide +kernel
theorem dL_subscriber_1 : decode cL_subscriber 1 = .ok (.iload_n 1, 1) := by decide +kernel
theorem dL_subscriber_2 : decode cL_subscriber 2 = .ok (.iload_n 2, 1) := by decide +kernel
theorem dL_subscriber_3 : decode cL_subscriber 3 = .ok (.iload_n 3, 1) := by decide +kernel
theorem dL_subscriber_4 : decode cL_subscriber 4 = .ok (.invokevirtual 42, 3) := by decide +kernel
theorem dL_subscriber_7 : decode cL_subscriber 7 = .ok (.istore 4, 2) := by decide +kernel
theorem dL_subscriber_9 : decode cL_subscriber 9 = .ok (.goto 21, 3) := by decide +kernel
theorem dL_subscriber_12 : decode cL_subscriber 12 = .ok (.astore 5, 2) := by decide +kernel
theorem dL_subscriber_14 : decode cL_subscriber 14 = .ok (.sipush (-7100), 3) := by decide +kernel
theorem dL_subscriber_17 : decode cL_subscriber 17 = .ok (.ireturn, 1) := by decide +kernel
theorem dL_subscriber_18 : decode cL_subscriber 18 = .ok (.astore 5, 2) := by decide +kernel
theorem dL_subscriber_20 : decode cL_subscriber 20 = .ok (.sipush (-7200), 3) := by decide +kernel
theorem dL_subscriber_23 : decode cL_subscriber 23 = .ok (.ireturn, 1) := by decide +kernel
theorem dL_subscriber_24 : decode cL_subscriber 24 = .ok (.astore 5, 2) := by decide +kernel
theorem dL_subscriber_26 : decode cL_subscriber 26 = .ok (.sipush (-7300), 3) := by decide +kernel
theorem dL_subscriber_29 : decode cL_subscriber 29 = .ok (.ireturn, 1) := by decide +kernel
theorem dL_subscriber_30 : decode cL_subscriber 30 = .ok (.iload 4, 2) := by decide +kernel
theorem dL_subscriber_32 : decode cL_subscriber 32 = .ok (.ireturn, 1) := by decide +kernel
theorem dL_move_0 : decode cL_move 0 = .ok (.aload_n 0, 1) := by decide +kernel
theorem dL_move_1 : decode cL_move 1 = .ok (.iload_n 1, 1) := by decide +kernel
theorem dL_move_2 : decode cL_move 2 = .ok (.iload_n 2, 1) := by decide +kernel
theorem dL_move_3 : decode cL_move 3 = .ok (.invokevirtual 46, 3) := by decide +kernel
theorem dL_move_6 : decode cL_move 6 = .ok (.istore_n 3, 1) := by decide +kernel
theorem dL_move_7 : decode cL_move 7 = .ok (.goto 9, 3) := by decide +kernel
theorem dL_move_10 : decode cL_move 10 = .ok (.astore 4, 2) := by decide +kernel
theorem dL_move_12 : decode cL_move 12 = .ok (.sipush (-7100), 3) := by decide +kernel
theorem dL_move_15 : decode cL_move 15 = .ok (.ireturn, 1) := by decide +kernel
theorem dL_move_16 : decode cL_move 16 = .ok (.iload_n 3, 1) := by decide +kernel
theorem dL_move_17 : decode cL_move 17 = .ok (.ireturn, 1) := by decide +kernel
theorem dL_off_0 : decode cL_off 0 = .ok (.aload_n 0, 1) := by decide +kernel
theorem dL_off_1 : decode cL_off 1 = .ok (.iload_n 1, 1) := by decide +kernel
theorem dL_off_2 : decode cL_off 2 = .ok (.invokevirtual 49, 3) := by decide +kernel
theorem dL_off_5 : decode cL_off 5 = .ok (.istore_n 2, 1) := by decide +kernel
theorem dL_off_6 : decode cL_off 6 = .ok (.goto 8, 3) := by decide +kernel
theorem dL_off_9 : decode cL_off 9 = .ok (.astore_n 3, 1) := by decide +kernel
theorem dL_off_10 : decode cL_off 10 = .ok (.sipush (-7100), 3) := by decide +kernel
theorem dL_off_13 : decode cL_off 13 = .ok (.ireturn, 1) := by decide +kernel
theorem dL_off_14 : decode cL_off 14 = .ok (.iload_n 2, 1) := by decide +kernel
theorem dL_off_15 : decode cL_off 15 = .ok (.ireturn, 1) := by decide +kernel
theorem dL_attach_0 : decode cL_attach 0 = .ok (.aload_n 0, 1) := by decide +kernel
theorem dL_attach_1 : decode cL_attach 1 = .ok (.iload_n 1, 1) := by decide +kernel
theorem dL_attach_2 : decode cL_attach 2 = .ok (.iload_n 2, 1) := by decide +kernel
theorem dL_attach_3 : decode cL_attach 3 = .ok (.invokevirtual 52, 3) := by decide +kernel
theorem dL_attach_6 : decode cL_attach 6 = .ok (.istore_n 3, 1) := by decide +kernel
theorem dL_attach_7 : decode cL_attach 7 = .ok (.goto 15, 3) := by decide +kernel
theorem dL_attach_10 : decode cL_attach 10 = .ok (.astore 4, 2) := by decide +kernel
theorem dL_attach_12 : decode cL_attach 12 = .ok (.sipush (-7100), 3) := by decide +kernel
theorem dL_attach_15 : decode cL_attach 15 = .ok (.ireturn, 1) := by decide +kernel
theorem dL_attach_16 : decode cL_attach 16 = .ok (.astore 4, 2) := by decide +kernel
theorem dL_attach_18 : decode cL_attach 18 = .ok (.sipush (-7300), 3) := by decide +kernel
theorem dL_attach_21 : decode cL_attach 21 = .ok (.ireturn, 1) := by decide +kernel
theorem dL_attach_22 : decode cL_attach 22 = .ok (.iload_n 3, 1) := by decide +kernel
theorem dL_attach_23 : decode cL_attach 23 = .ok (.ireturn, 1) := by decide +kernel
theorem dL_emergency_0 : decode cL_emergency 0 = .ok (.aload_n 0, 1) := by decide +kernel
theorem dL_emergency_1 : decode cL_emergency 1 = .ok (.iload_n 1, 1) := by decide +kernel
theorem dL_emergency_2 : decode cL_emergency 2 = .ok (.invokevirtual 55, 3) := by decide +kernel
theorem dL_emergency_5 : decode cL_emergency 5 = .ok (.istore_n 2, 1) := by decide +kernel
theorem dL_emergency_6 : decode cL_emergency 6 = .ok (.goto 8, 3) := by decide +kernel
theorem dL_emergency_9 : decode cL_emergency 9 = .ok (.astore_n 3, 1) := by decide +kernel
theorem dL_emergency_10 : decode cL_emergency 10 = .ok (.sipush (-7100), 3) := by decide +kernel
theorem dL_emergency_13 : decode cL_emergency 13 = .ok (.ireturn, 1) := by decide +kernel
theorem dL_emergency_14 : decode cL_emergency 14 = .ok (.iload_n 2, 1) := by decide +kernel
theorem dL_emergency_15 : decode cL_emergency 15 = .ok (.ireturn, 1) := by decide +kernel
theorem dL_where_0 : decode cL_where 0 = .ok (.aload_n 0, 1) := by decide +kernel
theorem dL_where_1 : decode cL_where 1 = .ok (.iload_n 1, 1) := by decide +kernel
theorem dL_where_2 : decode cL_where 2 = .ok (.invokevirtual 58, 3) := by decide +kernel
theorem dL_where_5 : decode cL_where 5 = .ok (.istore_n 2, 1) := by decide +kernel
theorem dL_where_6 : decode cL_where 6 = .ok (.goto 8, 3) := by decide +kernel
theorem dL_where_9 : decode cL_where 9 = .ok (.astore_n 3, 1) := by decide +kernel
theorem dL_where_10 : decode cL_where 10 = .ok (.sipush (-7100), 3) := by decide +kernel
theorem dL_where_13 : decode cL_where 13 = .ok (.ireturn, 1) := by decide +kernel
theorem dL_where_14 : decode cL_where 14 = .ok (.iload_n 2, 1) := by decide +kernel
theorem dL_where_15 : decode cL_where 15 = .ok (.ireturn, 1) := by decide +kernel
theorem dL_contact_0 : decode cL_contact 0 = .ok (.aload_n 0, 1) := by decide +kernel
theorem dL_contact_1 : decode cL_contact 1 = .ok (.iload_n 1, 1) := by decide +kernel
theorem dL_contact_2 : decode cL_contact 2 = .ok (.iload_n 2, 1) := by decide +kernel
theorem dL_contact_3 : decode cL_contact 3 = .ok (.invokevirtual 61, 3) := by decide +kernel
theorem dL_contact_6 : decode cL_contact 6 = .ok (.istore_n 3, 1) := by decide +kernel
theorem dL_contact_7 : decode cL_contact 7 = .ok (.goto 9, 3) := by decide +kernel
theorem dL_contact_10 : decode cL_contact 10 = .ok (.astore 4, 2) := by decide +kernel
theorem dL_contact_12 : decode cL_contact 12 = .ok (.sipush (-7100), 3) := by decide +kernel
theorem dL_contact_15 : decode cL_contact 15 = .ok (.ireturn, 1) := by decide +kernel
theorem dL_contact_16 : decode cL_contact 16 = .ok (.iload_n 3, 1) := by decide +kernel
theorem dL_contact_17 : decode cL_contact 17 = .ok (.ireturn, 1) := by decide +kernel
theorem dL_agrees_0 : decode cL_agrees 0 = .ok (.aload_n 0, 1) := by decide +kernel
theorem dL_agrees_1 : decode cL_agrees 1 = .ok (.iload_n 1, 1) := by decide +kernel
theorem dL_agrees_2 : decode cL_agrees 2 = .ok (.invokevirtual 64, 3) := by decide +kernel
theorem dL_agrees_5 : decode cL_agrees 5 = .ok (.istore_n 2, 1) := by decide +kernel
theorem dL_agrees_6 : decode cL_agrees 6 = .ok (.goto 8, 3) := by decide +kernel
theorem dL_agrees_9 : decode cL_agrees 9 = .ok (.astore_n 3, 1) := by decide +kernel
theorem dL_agrees_10 : decode cL_agrees 10 = .ok (.sipush (-7100), 3) := by decide +kernel
theorem dL_agrees_13 : decode cL_agrees 13 = .ok (.ireturn, 1) := by decide +kernel
theorem dL_agrees_14 : decode cL_agrees 14 = .ok (.iload_n 2, 1) := by decide +kernel
theorem dL_agrees_15 : decode cL_agrees 15 = .ok (.ifCond .eq 7, 3) := by decide +kernel
theorem dL_agrees_18 : decode cL_agrees 18 = .ok (.iconst 1, 1) := by decide +kernel
theorem dL_agrees_19 : decode cL_agrees 19 = .ok (.goto 4, 3) := by decide +kernel
theorem dL_agrees_22 : decode cL_agrees 22 = .ok (.iconst 0, 1) := by decide +kernel
theorem dL_agrees_23 : decode cL_agrees 23 = .ok (.ireturn, 1) := by decide +kernel
theorem dL_subscriberIs_0 : decode cL_subscriberIs 0 = .ok (.aload_n 0, 1) := by decide +kernel
theorem dL_subscriberIs_1 : decode cL_subscriberIs 1 = .ok (.iload_n 1, 1) := by decide +kernel
theorem dL_subscriberIs_2 : decode cL_subscriberIs 2 = .ok (.iload_n 2, 1) := by decide +kernel
theorem dL_subscriberIs_3 : decode cL_subscriberIs 3 = .ok (.invokevirtual 68, 3) := by decide +kernel
theorem dL_subscriberIs_6 : decode cL_subscriberIs 6 = .ok (.istore_n 3, 1) := by decide +kernel
theorem dL_subscriberIs_7 : decode cL_subscriberIs 7 = .ok (.goto 15, 3) := by decide +kernel
theorem dL_subscriberIs_10 : decode cL_subscriberIs 10 = .ok (.astore 4, 2) := by decide +kernel
theorem dL_subscriberIs_12 : decode cL_subscriberIs 12 = .ok (.sipush (-7100), 3) := by decide +kernel
theorem dL_subscriberIs_15 : decode cL_subscriberIs 15 = .ok (.ireturn, 1) := by decide +kernel
theorem dL_subscriberIs_16 : decode cL_subscriberIs 16 = .ok (.astore 4, 2) := by decide +kernel
theorem dL_subscriberIs_18 : decode cL_subscriberIs 18 = .ok (.sipush (-7200), 3) := by decide +kernel
theorem dL_subscriberIs_21 : decode cL_subscriberIs 21 = .ok (.ireturn, 1) := by decide +kernel
theorem dL_subscriberIs_22 : decode cL_subscriberIs 22 = .ok (.iload_n 3, 1) := by decide +kernel
theorem dL_subscriberIs_23 : decode cL_subscriberIs 23 = .ok (.ireturn, 1) := by decide +kernel
theorem dL_cap_0 : decode cL_cap 0 = .ok (.aload_n 0, 1) := by decide +kernel
theorem dL_cap_1 : decode cL_cap 1 = .ok (.iload_n 1, 1) := by decide +kernel
theorem dL_cap_2 : decode cL_cap 2 = .ok (.iload_n 2, 1) := by decide +kernel
theorem dL_cap_3 : decode cL_cap 3 = .ok (.iload_n 3, 1) := by decide +kernel
theorem dL_cap_4 : decode cL_cap 4 = .ok (.invokevirtual 71, 3) := by decide +kernel
theorem dL_cap_7 : decode cL_cap 7 = .ok (.goto 15, 3) := by decide +kernel
theorem dL_cap_10 : decode cL_cap 10 = .ok (.astore 4, 2) := by decide +kernel
theorem dL_cap_12 : decode cL_cap 12 = .ok (.sipush (-7100), 3) := by decide +kernel
theorem dL_cap_15 : decode cL_cap 15 = .ok (.ireturn, 1) := by decide +kernel
theorem dL_cap_16 : decode cL_cap 16 = .ok (.astore 4, 2) := by decide +kernel
theorem dL_cap_18 : decode cL_cap 18 = .ok (.sipush (-7200), 3) := by decide +kernel
theorem dL_cap_21 : decode cL_cap 21 = .ok (.ireturn, 1) := by decide +kernel
theorem dL_cap_22 : decode cL_cap 22 = .ok (.iconst 0, 1) := by decide +kernel
theorem dL_cap_23 : decode cL_cap 23 = .ok (.ireturn, 1) := by decide +kernel
theorem dL_call_0 : decode cL_call 0 = .ok (.aload_n 0, 1) := by decide +kernel
theorem dL_call_1 : decode cL_call 1 = .ok (.iload_n 1, 1) := by decide +kernel
theorem dL_call_2 : decode cL_call 2 = .ok (.iload_n 2, 1) := by decide +kernel
theorem dL_call_3 : decode cL_call 3 = .ok (.iload_n 3, 1) := by decide +kernel
theorem dL_call_4 : decode cL_call 4 = .ok (.invokevirtual 75, 3) := by decide +kernel
theorem dL_call_7 : decode cL_call 7 = .ok (.istore 4, 2) := by decide +kernel
theorem dL_call_9 : decode cL_call 9 = .ok (.goto 21, 3) := by decide +kernel
theorem dL_call_12 : decode cL_call 12 = .ok (.astore 5, 2) := by decide +kernel
theorem dL_call_14 : decode cL_call 14 = .ok (.sipush (-7100), 3) := by decide +kernel
theorem dL_call_17 : decode cL_call 17 = .ok (.ireturn, 1) := by decide +kernel
theorem dL_call_18 : decode cL_call 18 = .ok (.astore 5, 2) := by decide +kernel
theorem dL_call_20 : decode cL_call 20 = .ok (.sipush (-7200), 3) := by decide +kernel
theorem dL_call_23 : decode cL_call 23 = .ok (.ireturn, 1) := by decide +kernel
theorem dL_call_24 : decode cL_call 24 = .ok (.astore 5, 2) := by decide +kernel
theorem dL_call_26 : decode cL_call 26 = .ok (.sipush (-7300), 3) := by decide +kernel
theorem dL_call_29 : decode cL_call 29 = .ok (.ireturn, 1) := by decide +kernel
theorem dL_call_30 : decode cL_call 30 = .ok (.iload 4, 2) := by decide +kernel
theorem dL_call_32 : decode cL_call 32 = .ok (.ireturn, 1) := by decide +kernel
theorem dL_paidAnew_0 : decode cL_paidAnew 0 = .ok (.aload_n 0, 1) := by decide +kernel
theorem dL_paidAnew_1 : decode cL_paidAnew 1 = .ok (.iload_n 1, 1) := by decide +kernel
theorem dL_paidAnew_2 : decode cL_paidAnew 2 = .ok (.invokevirtual 78, 3) := by decide +kernel
theorem dL_paidAnew_5 : decode cL_paidAnew 5 = .ok (.istore_n 2, 1) := by decide +kernel
theorem dL_paidAnew_6 : decode cL_paidAnew 6 = .ok (.goto 8, 3) := by decide +kernel
theorem dL_paidAnew_9 : decode cL_paidAnew 9 = .ok (.astore_n 3, 1) := by decide +kernel
theorem dL_paidAnew_10 : decode cL_paidAnew 10 = .ok (.sipush (-7100), 3) := by decide +kernel
theorem dL_paidAnew_13 : decode cL_paidAnew 13 = .ok (.ireturn, 1) := by decide +kernel
theorem dL_paidAnew_14 : decode cL_paidAnew 14 = .ok (.iload_n 2, 1) := by decide +kernel
theorem dL_paidAnew_15 : decode cL_paidAnew 15 = .ok (.ireturn, 1) := by decide +kernel
theorem dL_file_0 : decode cL_file 0 = .ok (.aload_n 0, 1) := by decide +kernel
theorem dL_file_1 : decode cL_file 1 = .ok (.iload_n 1, 1) := by decide +kernel
theorem dL_file_2 : decode cL_file 2 = .ok (.iload_n 2, 1) := by decide +kernel
theorem dL_file_3 : decode cL_file 3 = .ok (.invokevirtual 81, 3) := by decide +kernel
theorem dL_file_6 : decode cL_file 6 = .ok (.istore_n 3, 1) := by decide +kernel
theorem dL_file_7 : decode cL_file 7 = .ok (.goto 15, 3) := by decide +kernel
theorem dL_file_10 : decode cL_file 10 = .ok (.astore 4, 2) := by decide +kernel
theorem dL_file_12 : decode cL_file 12 = .ok (.sipush (-7100), 3) := by decide +kernel
theorem dL_file_15 : decode cL_file 15 = .ok (.ireturn, 1) := by decide +kernel
theorem dL_file_16 : decode cL_file 16 = .ok (.astore 4, 2) := by decide +kernel
theorem dL_file_18 : decode cL_file 18 = .ok (.sipush (-7300), 3) := by decide +kernel
theorem dL_file_21 : decode cL_file 21 = .ok (.ireturn, 1) := by decide +kernel
theorem dL_file_22 : decode cL_file 22 = .ok (.iload_n 3, 1) := by decide +kernel
theorem dL_file_23 : decode cL_file 23 = .ok (.ireturn, 1) := by decide +kernel
theorem dL_deliver_0 : decode cL_deliver 0 = .ok (.aload_n 0, 1) := by decide +kernel
theorem dL_deliver_1 : decode cL_deliver 1 = .ok (.iload_n 1, 1) := by decide +kernel
theorem dL_deliver_2 : decode cL_deliver 2 = .ok (.iload_n 2, 1) := by decide +kernel
theorem dL_deliver_3 : decode cL_deliver 3 = .ok (.iload_n 3, 1) := by decide +kernel
theorem dL_deliver_4 : decode cL_deliver 4 = .ok (.invokevirtual 84, 3) := by decide +kernel
theorem dL_deliver_7 : decode cL_deliver 7 = .ok (.istore 4, 2) := by decide +kernel
theorem dL_deliver_9 : decode cL_deliver 9 = .ok (.goto 9, 3) := by decide +kernel
theorem dL_deliver_12 : decode cL_deliver 12 = .ok (.astore 5, 2) := by decide +kernel
theorem dL_deliver_14 : decode cL_deliver 14 = .ok (.sipush (-7100), 3) := by decide +kernel
theorem dL_deliver_17 : decode cL_deliver 17 = .ok (.ireturn, 1) := by decide +kernel
theorem dL_deliver_18 : decode cL_deliver 18 = .ok (.iload 4, 2) := by decide +kernel
theorem dL_deliver_20 : decode cL_deliver 20 = .ok (.ireturn, 1) := by decide +kernel
theorem dL_owes_0 : decode cL_owes 0 = .ok (.aload_n 0, 1) := by decide +kernel
theorem dL_owes_1 : decode cL_owes 1 = .ok (.iload_n 1, 1) := by decide +kernel
theorem dL_owes_2 : decode cL_owes 2 = .ok (.iload_n 2, 1) := by decide +kernel
theorem dL_owes_3 : decode cL_owes 3 = .ok (.invokevirtual 87, 3) := by decide +kernel
theorem dL_owes_6 : decode cL_owes 6 = .ok (.istore_n 3, 1) := by decide +kernel
theorem dL_owes_7 : decode cL_owes 7 = .ok (.goto 9, 3) := by decide +kernel
theorem dL_owes_10 : decode cL_owes 10 = .ok (.astore 4, 2) := by decide +kernel
theorem dL_owes_12 : decode cL_owes 12 = .ok (.sipush (-7100), 3) := by decide +kernel
theorem dL_owes_15 : decode cL_owes 15 = .ok (.ireturn, 1) := by decide +kernel
theorem dL_owes_16 : decode cL_owes 16 = .ok (.iload_n 3, 1) := by decide +kernel
theorem dL_owes_17 : decode cL_owes 17 = .ok (.ireturn, 1) := by decide +kernel
theorem dL_owesAnew_0 : decode cL_owesAnew 0 = .ok (.aload_n 0, 1) := by decide +kernel
theorem dL_owesAnew_1 : decode cL_owesAnew 1 = .ok (.iload_n 1, 1) := by decide +kernel
theorem dL_owesAnew_2 : decode cL_owesAnew 2 = .ok (.iload_n 2, 1) := by decide +kernel
theorem dL_owesAnew_3 : decode cL_owesAnew 3 = .ok (.invokevirtual 90, 3) := by decide +kernel
theorem dL_owesAnew_6 : decode cL_owesAnew 6 = .ok (.istore_n 3, 1) := by decide +kernel
theorem dL_owesAnew_7 : decode cL_owesAnew 7 = .ok (.goto 9, 3) := by decide +kernel
theorem dL_owesAnew_10 : decode cL_owesAnew 10 = .ok (.astore 4, 2) := by decide +kernel
theorem dL_owesAnew_12 : decode cL_owesAnew 12 = .ok (.sipush (-7100), 3) := by decide +kernel
theorem dL_owesAnew_15 : decode cL_owesAnew 15 = .ok (.ireturn, 1) := by decide +kernel
theorem dL_owesAnew_16 : decode cL_owesAnew 16 = .ok (.iload_n 3, 1) := by decide +kernel
theorem dL_owesAnew_17 : decode cL_owesAnew 17 = .ok (.ireturn, 1) := by decide +kernel
theorem dL_recorded_0 : decode cL_recorded 0 = .ok (.aload_n 0, 1) := by decide +kernel
theorem dL_recorded_1 : decode cL_recorded 1 = .ok (.iload_n 1, 1) := by decide +kernel
theorem dL_recorded_2 : decode cL_recorded 2 = .ok (.iload_n 2, 1) := by decide +kernel
theorem dL_recorded_3 : decode cL_recorded 3 = .ok (.iload_n 3, 1) := by decide +kernel
theorem dL_recorded_4 : decode cL_recorded 4 = .ok (.invokevirtual 93, 3) := by decide +kernel
theorem dL_recorded_7 : decode cL_recorded 7 = .ok (.istore 4, 2) := by decide +kernel
theorem dL_recorded_9 : decode cL_recorded 9 = .ok (.goto 15, 3) := by decide +kernel
theorem dL_recorded_12 : decode cL_recorded 12 = .ok (.astore 5, 2) := by decide +kernel
theorem dL_recorded_14 : decode cL_recorded 14 = .ok (.sipush (-7100), 3) := by decide +kernel
theorem dL_recorded_17 : decode cL_recorded 17 = .ok (.ireturn, 1) := by decide +kernel
theorem dL_recorded_18 : decode cL_recorded 18 = .ok (.astore 5, 2) := by decide +kernel
theorem dL_recorded_20 : decode cL_recorded 20 = .ok (.sipush (-7200), 3) := by decide +kernel
theorem dL_recorded_23 : decode cL_recorded 23 = .ok (.ireturn, 1) := by decide +kernel
theorem dL_recorded_24 : decode cL_recorded 24 = .ok (.iload 4, 2) := by decide +kernel
theorem dL_recorded_26 : decode cL_recorded 26 = .ok (.ireturn, 1) := by decide +kernel
theorem dL_pass_0 : decode cL_pass 0 = .ok (.aload_n 0, 1) := by decide +kernel
theorem dL_pass_1 : decode cL_pass 1 = .ok (.iload_n 1, 1) := by decide +kernel
theorem dL_pass_2 : decode cL_pass 2 = .ok (.invokevirtual 96, 3) := by decide +kernel
theorem dL_pass_5 : decode cL_pass 5 = .ok (.istore_n 2, 1) := by decide +kernel
theorem dL_pass_6 : decode cL_pass 6 = .ok (.goto 13, 3) := by decide +kernel
theorem dL_pass_9 : decode cL_pass 9 = .ok (.astore_n 3, 1) := by decide +kernel
theorem dL_pass_10 : decode cL_pass 10 = .ok (.sipush (-7200), 3) := by decide +kernel
theorem dL_pass_13 : decode cL_pass 13 = .ok (.ireturn, 1) := by decide +kernel
theorem dL_pass_14 : decode cL_pass 14 = .ok (.astore_n 3, 1) := by decide +kernel
theorem dL_pass_15 : decode cL_pass 15 = .ok (.sipush (-7300), 3) := by decide +kernel
theorem dL_pass_18 : decode cL_pass 18 = .ok (.ireturn, 1) := by decide +kernel
theorem dL_pass_19 : decode cL_pass 19 = .ok (.iload_n 2, 1) := by decide +kernel
theorem dL_pass_20 : decode cL_pass 20 = .ok (.ireturn, 1) := by decide +kernel
theorem dL_holds_0 : decode cL_holds 0 = .ok (.aload_n 3, 1) := by decide +kernel
theorem dL_holds_1 : decode cL_holds 1 = .ok (.iconst 2, 1) := by decide +kernel
theorem dL_holds_2 : decode cL_holds 2 = .ok (.iaload, 1) := by decide +kernel
theorem dL_holds_3 : decode cL_holds 3 = .ok (.iconst 1, 1) := by decide +kernel
theorem dL_holds_4 : decode cL_holds 4 = .ok (.isub, 1) := by decide +kernel
theorem dL_holds_5 : decode cL_holds 5 = .ok (.istore 4, 2) := by decide +kernel
theorem dL_holds_7 : decode cL_holds 7 = .ok (.iload 4, 2) := by decide +kernel
theorem dL_holds_9 : decode cL_holds 9 = .ok (.ifCond .lt 58, 3) := by decide +kernel
theorem dL_holds_12 : decode cL_holds 12 = .ok (.aload_n 2, 1) := by decide +kernel
theorem dL_holds_13 : decode cL_holds 13 = .ok (.bipush 6, 2) := by decide +kernel
theorem dL_holds_15 : decode cL_holds 15 = .ok (.iload 4, 2) := by decide +kernel
theorem dL_holds_17 : decode cL_holds 17 = .ok (.imul, 1) := by decide +kernel
theorem dL_holds_18 : decode cL_holds 18 = .ok (.iaload, 1) := by decide +kernel
theorem dL_holds_19 : decode cL_holds 19 = .ok (.bipush 8, 2) := by decide +kernel
theorem dL_holds_21 : decode cL_holds 21 = .ok (.iload_n 0, 1) := by decide +kernel
theorem dL_holds_22 : decode cL_holds 22 = .ok (.imul, 1) := by decide +kernel
theorem dL_holds_23 : decode cL_holds 23 = .ok (.iload_n 1, 1) := by decide +kernel
theorem dL_holds_24 : decode cL_holds 24 = .ok (.iadd, 1) := by decide +kernel
theorem dL_holds_25 : decode cL_holds 25 = .ok (.if_icmp .ne 36, 3) := by decide +kernel
theorem dL_holds_28 : decode cL_holds 28 = .ok (.aload_n 2, 1) := by decide +kernel
theorem dL_holds_29 : decode cL_holds 29 = .ok (.bipush 6, 2) := by decide +kernel
theorem dL_holds_31 : decode cL_holds 31 = .ok (.iload 4, 2) := by decide +kernel
theorem dL_holds_33 : decode cL_holds 33 = .ok (.imul, 1) := by decide +kernel
theorem dL_holds_34 : decode cL_holds 34 = .ok (.iconst 1, 1) := by decide +kernel
theorem dL_holds_35 : decode cL_holds 35 = .ok (.iadd, 1) := by decide +kernel
theorem dL_holds_36 : decode cL_holds 36 = .ok (.iaload, 1) := by decide +kernel
theorem dL_holds_37 : decode cL_holds 37 = .ok (.aload_n 3, 1) := by decide +kernel
theorem dL_holds_38 : decode cL_holds 38 = .ok (.iconst 0, 1) := by decide +kernel
theorem dL_holds_39 : decode cL_holds 39 = .ok (.iaload, 1) := by decide +kernel
theorem dL_holds_40 : decode cL_holds 40 = .ok (.if_icmp .gt 21, 3) := by decide +kernel
theorem dL_holds_43 : decode cL_holds 43 = .ok (.aload_n 3, 1) := by decide +kernel
theorem dL_holds_44 : decode cL_holds 44 = .ok (.iconst 0, 1) := by decide +kernel
theorem dL_holds_45 : decode cL_holds 45 = .ok (.iaload, 1) := by decide +kernel
theorem dL_holds_46 : decode cL_holds 46 = .ok (.aload_n 2, 1) := by decide +kernel
theorem dL_holds_47 : decode cL_holds 47 = .ok (.bipush 6, 2) := by decide +kernel
theorem dL_holds_49 : decode cL_holds 49 = .ok (.iload 4, 2) := by decide +kernel
theorem dL_holds_51 : decode cL_holds 51 = .ok (.imul, 1) := by decide +kernel
theorem dL_holds_52 : decode cL_holds 52 = .ok (.iconst 2, 1) := by decide +kernel
theorem dL_holds_53 : decode cL_holds 53 = .ok (.iadd, 1) := by decide +kernel
theorem dL_holds_54 : decode cL_holds 54 = .ok (.iaload, 1) := by decide +kernel
theorem dL_holds_55 : decode cL_holds 55 = .ok (.if_icmp .ge 6, 3) := by decide +kernel
theorem dL_holds_58 : decode cL_holds 58 = .ok (.iload 4, 2) := by decide +kernel
theorem dL_holds_60 : decode cL_holds 60 = .ok (.ireturn, 1) := by decide +kernel
theorem dL_holds_61 : decode cL_holds 61 = .ok (.iinc 4 (-1), 3) := by decide +kernel
theorem dL_holds_64 : decode cL_holds 64 = .ok (.goto (-57), 3) := by decide +kernel
theorem dL_holds_67 : decode cL_holds 67 = .ok (.iconst (-1), 1) := by decide +kernel
theorem dL_holds_68 : decode cL_holds 68 = .ok (.ireturn, 1) := by decide +kernel
theorem dL_reason_0 : decode cL_reason 0 = .ok (.aload 4, 2) := by decide +kernel
theorem dL_reason_2 : decode cL_reason 2 = .ok (.bipush 18, 2) := by decide +kernel
theorem dL_reason_4 : decode cL_reason 4 = .ok (.aload_n 2, 1) := by decide +kernel
theorem dL_reason_5 : decode cL_reason 5 = .ok (.bipush 8, 2) := by decide +kernel
theorem dL_reason_7 : decode cL_reason 7 = .ok (.iload_n 0, 1) := by decide +kernel
theorem dL_reason_8 : decode cL_reason 8 = .ok (.imul, 1) := by decide +kernel
theorem dL_reason_9 : decode cL_reason 9 = .ok (.iconst 1, 1) := by decide +kernel
theorem dL_reason_10 : decode cL_reason 10 = .ok (.iadd, 1) := by decide +kernel
theorem dL_reason_11 : decode cL_reason 11 = .ok (.iaload, 1) := by decide +kernel
theorem dL_reason_12 : decode cL_reason 12 = .ok (.iadd, 1) := by decide +kernel
theorem dL_reason_13 : decode cL_reason 13 = .ok (.iaload, 1) := by decide +kernel
theorem dL_reason_14 : decode cL_reason 14 = .ok (.iload_n 1, 1) := by decide +kernel
theorem dL_reason_15 : decode cL_reason 15 = .ok (.ishr, 1) := by decide +kernel
theorem dL_reason_16 : decode cL_reason 16 = .ok (.iconst 1, 1) := by decide +kernel
theorem dL_reason_17 : decode cL_reason 17 = .ok (.iand, 1) := by decide +kernel
theorem dL_reason_18 : decode cL_reason 18 = .ok (.ifCond .ne 5, 3) := by decide +kernel
theorem dL_reason_21 : decode cL_reason 21 = .ok (.iconst 1, 1) := by decide +kernel
theorem dL_reason_22 : decode cL_reason 22 = .ok (.ireturn, 1) := by decide +kernel
theorem dL_reason_23 : decode cL_reason 23 = .ok (.aload 4, 2) := by decide +kernel
theorem dL_reason_25 : decode cL_reason 25 = .ok (.iconst 5, 1) := by decide +kernel
theorem dL_reason_26 : decode cL_reason 26 = .ok (.iaload, 1) := by decide +kernel
theorem dL_reason_27 : decode cL_reason 27 = .ok (.iload_n 1, 1) := by decide +kernel
theorem dL_reason_28 : decode cL_reason 28 = .ok (.ishr, 1) := by decide +kernel
theorem dL_reason_29 : decode cL_reason 29 = .ok (.iconst 1, 1) := by decide +kernel
theorem dL_reason_30 : decode cL_reason 30 = .ok (.iand, 1) := by decide +kernel
theorem dL_reason_31 : decode cL_reason 31 = .ok (.iconst 1, 1) := by decide +kernel
theorem dL_reason_32 : decode cL_reason 32 = .ok (.if_icmp .ne 5, 3) := by decide +kernel
theorem dL_reason_35 : decode cL_reason 35 = .ok (.iconst 2, 1) := by decide +kernel
theorem dL_reason_36 : decode cL_reason 36 = .ok (.ireturn, 1) := by decide +kernel
theorem dL_reason_37 : decode cL_reason 37 = .ok (.aload_n 2, 1) := by decide +kernel
theorem dL_reason_38 : decode cL_reason 38 = .ok (.bipush 8, 2) := by decide +kernel
theorem dL_reason_40 : decode cL_reason 40 = .ok (.iload_n 0, 1) := by decide +kernel
theorem dL_reason_41 : decode cL_reason 41 = .ok (.imul, 1) := by decide +kernel
theorem dL_reason_42 : decode cL_reason 42 = .ok (.iconst 2, 1) := by decide +kernel
theorem dL_reason_43 : decode cL_reason 43 = .ok (.iadd, 1) := by decide +kernel
theorem dL_reason_44 : decode cL_reason 44 = .ok (.iaload, 1) := by decide +kernel
theorem dL_reason_45 : decode cL_reason 45 = .ok (.iload_n 1, 1) := by decide +kernel
theorem dL_reason_46 : decode cL_reason 46 = .ok (.ishr, 1) := by decide +kernel
theorem dL_reason_47 : decode cL_reason 47 = .ok (.iconst 1, 1) := by decide +kernel
theorem dL_reason_48 : decode cL_reason 48 = .ok (.iand, 1) := by decide +kernel
theorem dL_reason_49 : decode cL_reason 49 = .ok (.iconst 1, 1) := by decide +kernel
theorem dL_reason_50 : decode cL_reason 50 = .ok (.if_icmp .ne 5, 3) := by decide +kernel
theorem dL_reason_53 : decode cL_reason 53 = .ok (.iconst 3, 1) := by decide +kernel
theorem dL_reason_54 : decode cL_reason 54 = .ok (.ireturn, 1) := by decide +kernel
theorem dL_reason_55 : decode cL_reason 55 = .ok (.aload_n 2, 1) := by decide +kernel
theorem dL_reason_56 : decode cL_reason 56 = .ok (.bipush 8, 2) := by decide +kernel
theorem dL_reason_58 : decode cL_reason 58 = .ok (.iload_n 0, 1) := by decide +kernel
theorem dL_reason_59 : decode cL_reason 59 = .ok (.imul, 1) := by decide +kernel
theorem dL_reason_60 : decode cL_reason 60 = .ok (.iaload, 1) := by decide +kernel
theorem dL_reason_61 : decode cL_reason 61 = .ok (.iload_n 1, 1) := by decide +kernel
theorem dL_reason_62 : decode cL_reason 62 = .ok (.if_icmp .eq 20, 3) := by decide +kernel
theorem dL_reason_65 : decode cL_reason 65 = .ok (.aload_n 2, 1) := by decide +kernel
theorem dL_reason_66 : decode cL_reason 66 = .ok (.bipush 8, 2) := by decide +kernel
theorem dL_reason_68 : decode cL_reason 68 = .ok (.iload_n 0, 1) := by decide +kernel
theorem dL_reason_69 : decode cL_reason 69 = .ok (.imul, 1) := by decide +kernel
theorem dL_reason_70 : decode cL_reason 70 = .ok (.iaload, 1) := by decide +kernel
theorem dL_reason_71 : decode cL_reason 71 = .ok (.iload_n 1, 1) := by decide +kernel
theorem dL_reason_72 : decode cL_reason 72 = .ok (.aload_n 3, 1) := by decide +kernel
theorem dL_reason_73 : decode cL_reason 73 = .ok (.aload 4, 2) := by decide +kernel
theorem dL_reason_75 : decode cL_reason 75 = .ok (.invokestatic 101, 3) := by decide +kernel
theorem dL_reason_78 : decode cL_reason 78 = .ok (.iconst (-1), 1) := by decide +kernel
theorem dL_reason_79 : decode cL_reason 79 = .ok (.if_icmp .eq 7, 3) := by decide +kernel
theorem dL_reason_82 : decode cL_reason 82 = .ok (.iconst 0, 1) := by decide +kernel
theorem dL_reason_83 : decode cL_reason 83 = .ok (.goto 4, 3) := by decide +kernel
theorem dL_reason_86 : decode cL_reason 86 = .ok (.iconst 4, 1) := by decide +kernel
theorem dL_reason_87 : decode cL_reason 87 = .ok (.ireturn, 1) := by decide +kernel
theorem dL_meets_0 : decode cL_meets 0 = .ok (.aload_n 1, 1) := by decide +kernel
theorem dL_meets_1 : decode cL_meets 1 = .ok (.bipush 8, 2) := by decide +kernel
theorem dL_meets_3 : decode cL_meets 3 = .ok (.iload_n 0, 1) := by decide +kernel
theorem dL_meets_4 : decode cL_meets 4 = .ok (.imul, 1) := by decide +kernel
theorem dL_meets_5 : decode cL_meets 5 = .ok (.iconst 3, 1) := by decide +kernel
theorem dL_meets_6 : decode cL_meets 6 = .ok (.iadd, 1) := by decide +kernel
theorem dL_meets_7 : decode cL_meets 7 = .ok (.iaload, 1) := by decide +kernel
theorem dL_meets_8 : decode cL_meets 8 = .ok (.istore 4, 2) := by decide +kernel
theorem dL_meets_10 : decode cL_meets 10 = .ok (.aload_n 2, 1) := by decide +kernel
theorem dL_meets_11 : decode cL_meets 11 = .ok (.bipush 6, 2) := by decide +kernel
theorem dL_meets_13 : decode cL_meets 13 = .ok (.iload 4, 2) := by decide +kernel
theorem dL_meets_15 : decode cL_meets 15 = .ok (.imul, 1) := by decide +kernel
theorem dL_meets_16 : decode cL_meets 16 = .ok (.iload_n 0, 1) := by decide +kernel
theorem dL_meets_17 : decode cL_meets 17 = .ok (.iadd, 1) := by decide +kernel
theorem dL_meets_18 : decode cL_meets 18 = .ok (.aload_n 3, 1) := by decide +kernel
theorem dL_meets_19 : decode cL_meets 19 = .ok (.iconst 0, 1) := by decide +kernel
theorem dL_meets_20 : decode cL_meets 20 = .ok (.iaload, 1) := by decide +kernel
theorem dL_meets_21 : decode cL_meets 21 = .ok (.iastore, 1) := by decide +kernel
theorem dL_meets_22 : decode cL_meets 22 = .ok (.aload_n 3, 1) := by decide +kernel
theorem dL_meets_23 : decode cL_meets 23 = .ok (.bipush 12, 2) := by decide +kernel
theorem dL_meets_25 : decode cL_meets 25 = .ok (.iload 4, 2) := by decide +kernel
theorem dL_meets_27 : decode cL_meets 27 = .ok (.iadd, 1) := by decide +kernel
theorem dL_meets_28 : decode cL_meets 28 = .ok (.iaload, 1) := by decide +kernel
theorem dL_meets_29 : decode cL_meets 29 = .ok (.ifCond .le 15, 3) := by decide +kernel
theorem dL_meets_32 : decode cL_meets 32 = .ok (.aload_n 3, 1) := by decide +kernel
theorem dL_meets_33 : decode cL_meets 33 = .ok (.bipush 12, 2) := by decide +kernel
theorem dL_meets_35 : decode cL_meets 35 = .ok (.iload 4, 2) := by decide +kernel
theorem dL_meets_37 : decode cL_meets 37 = .ok (.iadd, 1) := by decide +kernel
theorem dL_meets_38 : decode cL_meets 38 = .ok (.dup2, 1) := by decide +kernel
theorem dL_meets_39 : decode cL_meets 39 = .ok (.iaload, 1) := by decide +kernel
theorem dL_meets_40 : decode cL_meets 40 = .ok (.iconst 1, 1) := by decide +kernel
theorem dL_meets_41 : decode cL_meets 41 = .ok (.isub, 1) := by decide +kernel
theorem dL_meets_42 : decode cL_meets 42 = .ok (.iastore, 1) := by decide +kernel
theorem dL_meets_43 : decode cL_meets 43 = .ok (.return_, 1) := by decide +kernel
theorem dL_meets_44 : decode cL_meets 44 = .ok (.aload_n 1, 1) := by decide +kernel
theorem dL_meets_45 : decode cL_meets 45 = .ok (.bipush 8, 2) := by decide +kernel
theorem dL_meets_47 : decode cL_meets 47 = .ok (.iload_n 0, 1) := by decide +kernel
theorem dL_meets_48 : decode cL_meets 48 = .ok (.imul, 1) := by decide +kernel
theorem dL_meets_49 : decode cL_meets 49 = .ok (.iconst 5, 1) := by decide +kernel
theorem dL_meets_50 : decode cL_meets 50 = .ok (.iadd, 1) := by decide +kernel
theorem dL_meets_51 : decode cL_meets 51 = .ok (.iaload, 1) := by decide +kernel
theorem dL_meets_52 : decode cL_meets 52 = .ok (.istore 5, 2) := by decide +kernel
theorem dL_meets_54 : decode cL_meets 54 = .ok (.aload_n 1, 1) := by decide +kernel
theorem dL_meets_55 : decode cL_meets 55 = .ok (.bipush 8, 2) := by decide +kernel
theorem dL_meets_57 : decode cL_meets 57 = .ok (.iload_n 0, 1) := by decide +kernel
theorem dL_meets_58 : decode cL_meets 58 = .ok (.imul, 1) := by decide +kernel
theorem dL_meets_59 : decode cL_meets 59 = .ok (.iconst 5, 1) := by decide +kernel
theorem dL_meets_60 : decode cL_meets 60 = .ok (.iadd, 1) := by decide +kernel
theorem dL_meets_61 : decode cL_meets 61 = .ok (.iload 4, 2) := by decide +kernel
theorem dL_meets_63 : decode cL_meets 63 = .ok (.iastore, 1) := by decide +kernel
theorem dL_meets_64 : decode cL_meets 64 = .ok (.iload 5, 2) := by decide +kernel
theorem dL_meets_66 : decode cL_meets 66 = .ok (.iconst (-1), 1) := by decide +kernel
theorem dL_meets_67 : decode cL_meets 67 = .ok (.if_icmp .eq 20, 3) := by decide +kernel
theorem dL_meets_70 : decode cL_meets 70 = .ok (.iload 5, 2) := by decide +kernel
theorem dL_meets_72 : decode cL_meets 72 = .ok (.iload 4, 2) := by decide +kernel
theorem dL_meets_74 : decode cL_meets 74 = .ok (.if_icmp .eq 13, 3) := by decide +kernel
theorem dL_meets_77 : decode cL_meets 77 = .ok (.aload_n 2, 1) := by decide +kernel
theorem dL_meets_78 : decode cL_meets 78 = .ok (.bipush 6, 2) := by decide +kernel
theorem dL_meets_80 : decode cL_meets 80 = .ok (.iload 5, 2) := by decide +kernel
theorem dL_meets_82 : decode cL_meets 82 = .ok (.imul, 1) := by decide +kernel
theorem dL_meets_83 : decode cL_meets 83 = .ok (.iload_n 0, 1) := by decide +kernel
theorem dL_meets_84 : decode cL_meets 84 = .ok (.iadd, 1) := by decide +kernel
theorem dL_meets_85 : decode cL_meets 85 = .ok (.iconst (-1), 1) := by decide +kernel
theorem dL_meets_86 : decode cL_meets 86 = .ok (.iastore, 1) := by decide +kernel
theorem dL_meets_87 : decode cL_meets 87 = .ok (.return_, 1) := by decide +kernel
theorem dL_paid_0 : decode cL_paid 0 = .ok (.iconst 0, 1) := by decide +kernel
theorem dL_paid_1 : decode cL_paid 1 = .ok (.istore 5, 2) := by decide +kernel
theorem dL_paid_3 : decode cL_paid 3 = .ok (.iconst 0, 1) := by decide +kernel
theorem dL_paid_4 : decode cL_paid 4 = .ok (.istore 6, 2) := by decide +kernel
theorem dL_paid_6 : decode cL_paid 6 = .ok (.iload 6, 2) := by decide +kernel
theorem dL_paid_8 : decode cL_paid 8 = .ok (.aload 4, 2) := by decide +kernel
theorem dL_paid_10 : decode cL_paid 10 = .ok (.iconst 4, 1) := by decide +kernel
theorem dL_paid_11 : decode cL_paid 11 = .ok (.iaload, 1) := by decide +kernel
theorem dL_paid_12 : decode cL_paid 12 = .ok (.if_icmp .ge 78, 3) := by decide +kernel
theorem dL_paid_15 : decode cL_paid 15 = .ok (.iload_n 1, 1) := by decide +kernel
theorem dL_paid_16 : decode cL_paid 16 = .ok (.ifCond .eq 30, 3) := by decide +kernel
theorem dL_paid_19 : decode cL_paid 19 = .ok (.aload_n 2, 1) := by decide +kernel
theorem dL_paid_20 : decode cL_paid 20 = .ok (.iload 6, 2) := by decide +kernel
theorem dL_paid_22 : decode cL_paid 22 = .ok (.iaload, 1) := by decide +kernel
theorem dL_paid_23 : decode cL_paid 23 = .ok (.bipush 8, 2) := by decide +kernel
theorem dL_paid_25 : decode cL_paid 25 = .ok (.iand, 1) := by decide +kernel
theorem dL_paid_26 : decode cL_paid 26 = .ok (.ifCond .le 24, 3) := by decide +kernel
theorem dL_paid_29 : decode cL_paid 29 = .ok (.aload_n 3, 1) := by decide +kernel
theorem dL_paid_30 : decode cL_paid 30 = .ok (.iload 6, 2) := by decide +kernel
theorem dL_paid_32 : decode cL_paid 32 = .ok (.iaload, 1) := by decide +kernel
theorem dL_paid_33 : decode cL_paid 33 = .ok (.ldc 105, 2) := by decide +kernel
theorem dL_paid_35 : decode cL_paid 35 = .ok (.idiv, 1) := by decide +kernel
theorem dL_paid_36 : decode cL_paid 36 = .ok (.aload 4, 2) := by decide +kernel
theorem dL_paid_38 : decode cL_paid 38 = .ok (.iconst 0, 1) := by decide +kernel
theorem dL_paid_39 : decode cL_paid 39 = .ok (.iaload, 1) := by decide +kernel
theorem dL_paid_40 : decode cL_paid 40 = .ok (.ldc 105, 2) := by decide +kernel
theorem dL_paid_42 : decode cL_paid 42 = .ok (.idiv, 1) := by decide +kernel
theorem dL_paid_43 : decode cL_paid 43 = .ok (.if_icmp .ne 7, 3) := by decide +kernel
theorem dL_paid_46 : decode cL_paid 46 = .ok (.iconst 1, 1) := by decide +kernel
theorem dL_paid_47 : decode cL_paid 47 = .ok (.goto 4, 3) := by decide +kernel
theorem dL_paid_50 : decode cL_paid 50 = .ok (.iconst 0, 1) := by decide +kernel
theorem dL_paid_51 : decode cL_paid 51 = .ok (.istore 7, 2) := by decide +kernel
theorem dL_paid_53 : decode cL_paid 53 = .ok (.iload 5, 2) := by decide +kernel
theorem dL_paid_55 : decode cL_paid 55 = .ok (.aload_n 2, 1) := by decide +kernel
theorem dL_paid_56 : decode cL_paid 56 = .ok (.iload 6, 2) := by decide +kernel
theorem dL_paid_58 : decode cL_paid 58 = .ok (.iaload, 1) := by decide +kernel
theorem dL_paid_59 : decode cL_paid 59 = .ok (.bipush 7, 2) := by decide +kernel
theorem dL_paid_61 : decode cL_paid 61 = .ok (.iand, 1) := by decide +kernel
theorem dL_paid_62 : decode cL_paid 62 = .ok (.iload_n 0, 1) := by decide +kernel
theorem dL_paid_63 : decode cL_paid 63 = .ok (.if_icmp .ne 17, 3) := by decide +kernel
theorem dL_paid_66 : decode cL_paid 66 = .ok (.iload 7, 2) := by decide +kernel
theorem dL_paid_68 : decode cL_paid 68 = .ok (.ifCond .eq 12, 3) := by decide +kernel
theorem dL_paid_71 : decode cL_paid 71 = .ok (.aload_n 2, 1) := by decide +kernel
theorem dL_paid_72 : decode cL_paid 72 = .ok (.iload 6, 2) := by decide +kernel
theorem dL_paid_74 : decode cL_paid 74 = .ok (.iaload, 1) := by decide +kernel
theorem dL_paid_75 : decode cL_paid 75 = .ok (.iconst 4, 1) := by decide +kernel
theorem dL_paid_76 : decode cL_paid 76 = .ok (.ishr, 1) := by decide +kernel
theorem dL_paid_77 : decode cL_paid 77 = .ok (.goto 4, 3) := by decide +kernel
theorem dL_paid_80 : decode cL_paid 80 = .ok (.iconst 0, 1) := by decide +kernel
theorem dL_paid_81 : decode cL_paid 81 = .ok (.iadd, 1) := by decide +kernel
theorem dL_paid_82 : decode cL_paid 82 = .ok (.istore 5, 2) := by decide +kernel
theorem dL_paid_84 : decode cL_paid 84 = .ok (.iinc 6 1, 3) := by decide +kernel
theorem dL_paid_87 : decode cL_paid 87 = .ok (.goto (-81), 3) := by decide +kernel
theorem dL_paid_90 : decode cL_paid 90 = .ok (.iload 5, 2) := by decide +kernel
theorem dL_paid_92 : decode cL_paid 92 = .ok (.ireturn, 1) := by decide +kernel
theorem dL_minutes_0 : decode cL_minutes 0 = .ok (.iconst 0, 1) := by decide +kernel
theorem dL_minutes_1 : decode cL_minutes 1 = .ok (.istore 5, 2) := by decide +kernel
theorem dL_minutes_3 : decode cL_minutes 3 = .ok (.iconst 0, 1) := by decide +kernel
theorem dL_minutes_4 : decode cL_minutes 4 = .ok (.istore 6, 2) := by decide +kernel
theorem dL_minutes_6 : decode cL_minutes 6 = .ok (.iload 6, 2) := by decide +kernel
theorem dL_minutes_8 : decode cL_minutes 8 = .ok (.aload 4, 2) := by decide +kernel
theorem dL_minutes_10 : decode cL_minutes 10 = .ok (.iconst 3, 1) := by decide +kernel
theorem dL_minutes_11 : decode cL_minutes 11 = .ok (.iaload, 1) := by decide +kernel
theorem dL_minutes_12 : decode cL_minutes 12 = .ok (.if_icmp .ge 46, 3) := by decide +kernel
theorem dL_minutes_15 : decode cL_minutes 15 = .ok (.iload 5, 2) := by decide +kernel
theorem dL_minutes_17 : decode cL_minutes 17 = .ok (.aload_n 2, 1) := by decide +kernel
theorem dL_minutes_18 : decode cL_minutes 18 = .ok (.iload 6, 2) := by decide +kernel
theorem dL_minutes_20 : decode cL_minutes 20 = .ok (.iaload, 1) := by decide +kernel
theorem dL_minutes_21 : decode cL_minutes 21 = .ok (.bipush 63, 2) := by decide +kernel
theorem dL_minutes_23 : decode cL_minutes 23 = .ok (.iand, 1) := by decide +kernel
theorem dL_minutes_24 : decode cL_minutes 24 = .ok (.iload_n 0, 1) := by decide +kernel
theorem dL_minutes_25 : decode cL_minutes 25 = .ok (.if_icmp .ne 23, 3) := by decide +kernel
theorem dL_minutes_28 : decode cL_minutes 28 = .ok (.aload_n 2, 1) := by decide +kernel
theorem dL_minutes_29 : decode cL_minutes 29 = .ok (.iload 6, 2) := by decide +kernel
theorem dL_minutes_31 : decode cL_minutes 31 = .ok (.iaload, 1) := by decide +kernel
theorem dL_minutes_32 : decode cL_minutes 32 = .ok (.bipush 6, 2) := by decide +kernel
theorem dL_minutes_34 : decode cL_minutes 34 = .ok (.ishr, 1) := by decide +kernel
theorem dL_minutes_35 : decode cL_minutes 35 = .ok (.iconst 3, 1) := by decide +kernel
theorem dL_minutes_36 : decode cL_minutes 36 = .ok (.iand, 1) := by decide +kernel
theorem dL_minutes_37 : decode cL_minutes 37 = .ok (.iload_n 1, 1) := by decide +kernel
theorem dL_minutes_38 : decode cL_minutes 38 = .ok (.if_icmp .ne 10, 3) := by decide +kernel
theorem dL_minutes_41 : decode cL_minutes 41 = .ok (.aload_n 3, 1) := by decide +kernel
theorem dL_minutes_42 : decode cL_minutes 42 = .ok (.iload 6, 2) := by decide +kernel
theorem dL_minutes_44 : decode cL_minutes 44 = .ok (.iaload, 1) := by decide +kernel
theorem dL_minutes_45 : decode cL_minutes 45 = .ok (.goto 4, 3) := by decide +kernel
theorem dL_minutes_48 : decode cL_minutes 48 = .ok (.iconst 0, 1) := by decide +kernel
theorem dL_minutes_49 : decode cL_minutes 49 = .ok (.iadd, 1) := by decide +kernel
theorem dL_minutes_50 : decode cL_minutes 50 = .ok (.istore 5, 2) := by decide +kernel
theorem dL_minutes_52 : decode cL_minutes 52 = .ok (.iinc 6 1, 3) := by decide +kernel
theorem dL_minutes_55 : decode cL_minutes 55 = .ok (.goto (-49), 3) := by decide +kernel
theorem dL_minutes_58 : decode cL_minutes 58 = .ok (.iload 5, 2) := by decide +kernel
theorem dL_minutes_60 : decode cL_minutes 60 = .ok (.ireturn, 1) := by decide +kernel
theorem dL_isTold_0 : decode cL_isTold 0 = .ok (.iconst 0, 1) := by decide +kernel
theorem dL_isTold_1 : decode cL_isTold 1 = .ok (.istore 10, 2) := by decide +kernel
theorem dL_isTold_3 : decode cL_isTold 3 = .ok (.iload 10, 2) := by decide +kernel
theorem dL_isTold_5 : decode cL_isTold 5 = .ok (.aload 9, 2) := by decide +kernel
theorem dL_isTold_7 : decode cL_isTold 7 = .ok (.iconst 1, 1) := by decide +kernel
theorem dL_isTold_8 : decode cL_isTold 8 = .ok (.iaload, 1) := by decide +kernel
theorem dL_isTold_9 : decode cL_isTold 9 = .ok (.if_icmp .ge 410, 3) := by decide +kernel
theorem dL_isTold_12 : decode cL_isTold 12 = .ok (.iload 10, 2) := by decide +kernel
theorem dL_isTold_14 : decode cL_isTold 14 = .ok (.iconst 1, 1) := by decide +kernel
theorem dL_isTold_15 : decode cL_isTold 15 = .ok (.aload 7, 2) := by decide +kernel
theorem dL_isTold_17 : decode cL_isTold 17 = .ok (.aload 8, 2) := by decide +kernel
theorem dL_isTold_19 : decode cL_isTold 19 = .ok (.aload 9, 2) := by decide +kernel
theorem dL_isTold_21 : decode cL_isTold 21 = .ok (.invokestatic 106, 3) := by decide +kernel
theorem dL_isTold_24 : decode cL_isTold 24 = .ok (.istore 11, 2) := by decide +kernel
theorem dL_isTold_26 : decode cL_isTold 26 = .ok (.iload 10, 2) := by decide +kernel
theorem dL_isTold_28 : decode cL_isTold 28 = .ok (.iconst 0, 1) := by decide +kernel
theorem dL_isTold_29 : decode cL_isTold 29 = .ok (.aload 7, 2) := by decide +kernel
theorem dL_isTold_31 : decode cL_isTold 31 = .ok (.aload 8, 2) := by decide +kernel
theorem dL_isTold_33 : decode cL_isTold 33 = .ok (.aload 9, 2) := by decide +kernel
theorem dL_isTold_35 : decode cL_isTold 35 = .ok (.invokestatic 106, 3) := by decide +kernel
theorem dL_isTold_38 : decode cL_isTold 38 = .ok (.istore 12, 2) := by decide +kernel
theorem dL_isTold_40 : decode cL_isTold 40 = .ok (.aload_n 2, 1) := by decide +kernel
theorem dL_isTold_41 : decode cL_isTold 41 = .ok (.bipush 8, 2) := by decide +kernel
theorem dL_isTold_43 : decode cL_isTold 43 = .ok (.iload 10, 2) := by decide +kernel
theorem dL_isTold_45 : decode cL_isTold 45 = .ok (.imul, 1) := by decide +kernel
theorem dL_isTold_46 : decode cL_isTold 46 = .ok (.iconst 3, 1) := by decide +kernel
theorem dL_isTold_47 : decode cL_isTold 47 = .ok (.iadd, 1) := by decide +kernel
theorem dL_isTold_48 : decode cL_isTold 48 = .ok (.iaload, 1) := by decide +kernel
theorem dL_isTold_49 : decode cL_isTold 49 = .ok (.istore 13, 2) := by decide +kernel
theorem dL_isTold_51 : decode cL_isTold 51 = .ok (.aload_n 0, 1) := by decide +kernel
theorem dL_isTold_52 : decode cL_isTold 52 = .ok (.iload 10, 2) := by decide +kernel
theorem dL_isTold_54 : decode cL_isTold 54 = .ok (.iconst 0, 1) := by decide +kernel
theorem dL_isTold_55 : decode cL_isTold 55 = .ok (.invokestatic 110, 3) := by decide +kernel
theorem dL_isTold_58 : decode cL_isTold 58 = .ok (.iload 13, 2) := by decide +kernel
theorem dL_isTold_60 : decode cL_isTold 60 = .ok (.if_icmp .ne 149, 3) := by decide +kernel
theorem dL_isTold_63 : decode cL_isTold 63 = .ok (.aload_n 0, 1) := by decide +kernel
theorem dL_isTold_64 : decode cL_isTold 64 = .ok (.iload 10, 2) := by decide +kernel
theorem dL_isTold_66 : decode cL_isTold 66 = .ok (.iconst 1, 1) := by decide +kernel
theorem dL_isTold_67 : decode cL_isTold 67 = .ok (.invokestatic 110, 3) := by decide +kernel
theorem dL_isTold_70 : decode cL_isTold 70 = .ok (.aload_n 2, 1) := by decide +kernel
theorem dL_isTold_71 : decode cL_isTold 71 = .ok (.bipush 8, 2) := by decide +kernel
theorem dL_isTold_73 : decode cL_isTold 73 = .ok (.iload 10, 2) := by decide +kernel
theorem dL_isTold_75 : decode cL_isTold 75 = .ok (.imul, 1) := by decide +kernel
theorem dL_isTold_76 : decode cL_isTold 76 = .ok (.iconst 1, 1) := by decide +kernel
theorem dL_isTold_77 : decode cL_isTold 77 = .ok (.iadd, 1) := by decide +kernel
theorem dL_isTold_78 : decode cL_isTold 78 = .ok (.iaload, 1) := by decide +kernel
theorem dL_isTold_79 : decode cL_isTold 79 = .ok (.if_icmp .ne 130, 3) := by decide +kernel
theorem dL_isTold_82 : decode cL_isTold 82 = .ok (.aload_n 0, 1) := by decide +kernel
theorem dL_isTold_83 : decode cL_isTold 83 = .ok (.iload 10, 2) := by decide +kernel
theorem dL_isTold_85 : decode cL_isTold 85 = .ok (.iconst 2, 1) := by decide +kernel
theorem dL_isTold_86 : decode cL_isTold 86 = .ok (.invokestatic 110, 3) := by decide +kernel
theorem dL_isTold_89 : decode cL_isTold 89 = .ok (.aload_n 2, 1) := by decide +kernel
theorem dL_isTold_90 : decode cL_isTold 90 = .ok (.bipush 8, 2) := by decide +kernel
theorem dL_isTold_92 : decode cL_isTold 92 = .ok (.iload 10, 2) := by decide +kernel
theorem dL_isTold_94 : decode cL_isTold 94 = .ok (.imul, 1) := by decide +kernel
theorem dL_isTold_95 : decode cL_isTold 95 = .ok (.iconst 4, 1) := by decide +kernel
theorem dL_isTold_96 : decode cL_isTold 96 = .ok (.iadd, 1) := by decide +kernel
theorem dL_isTold_97 : decode cL_isTold 97 = .ok (.iaload, 1) := by decide +kernel
theorem dL_isTold_98 : decode cL_isTold 98 = .ok (.if_icmp .ne 111, 3) := by decide +kernel
theorem dL_isTold_101 : decode cL_isTold 101 = .ok (.aload_n 0, 1) := by decide +kernel
theorem dL_isTold_102 : decode cL_isTold 102 = .ok (.iload 10, 2) := by decide +kernel
theorem dL_isTold_104 : decode cL_isTold 104 = .ok (.iconst 3, 1) := by decide +kernel
theorem dL_isTold_105 : decode cL_isTold 105 = .ok (.invokestatic 110, 3) := by decide +kernel
theorem dL_isTold_108 : decode cL_isTold 108 = .ok (.iload 12, 2) := by decide +kernel
theorem dL_isTold_110 : decode cL_isTold 110 = .ok (.if_icmp .ne 99, 3) := by decide +kernel
theorem dL_isTold_113 : decode cL_isTold 113 = .ok (.aload_n 0, 1) := by decide +kernel
theorem dL_isTold_114 : decode cL_isTold 114 = .ok (.iload 10, 2) := by decide +kernel
theorem dL_isTold_116 : decode cL_isTold 116 = .ok (.invokestatic 113, 3) := by decide +kernel
theorem dL_isTold_119 : decode cL_isTold 119 = .ok (.iload 12, 2) := by decide +kernel
theorem dL_isTold_121 : decode cL_isTold 121 = .ok (.if_icmp .ne 88, 3) := by decide +kernel
theorem dL_isTold_124 : decode cL_isTold 124 = .ok (.aload_n 0, 1) := by decide +kernel
theorem dL_isTold_125 : decode cL_isTold 125 = .ok (.iload 10, 2) := by decide +kernel
theorem dL_isTold_127 : decode cL_isTold 127 = .ok (.iconst 4, 1) := by decide +kernel
theorem dL_isTold_128 : decode cL_isTold 128 = .ok (.invokestatic 110, 3) := by decide +kernel
theorem dL_isTold_131 : decode cL_isTold 131 = .ok (.iload 11, 2) := by decide +kernel
theorem dL_isTold_133 : decode cL_isTold 133 = .ok (.if_icmp .ne 76, 3) := by decide +kernel
theorem dL_isTold_136 : decode cL_isTold 136 = .ok (.aload_n 0, 1) := by decide +kernel
theorem dL_isTold_137 : decode cL_isTold 137 = .ok (.iload 10, 2) := by decide +kernel
theorem dL_isTold_139 : decode cL_isTold 139 = .ok (.iconst 5, 1) := by decide +kernel
theorem dL_isTold_140 : decode cL_isTold 140 = .ok (.invokestatic 110, 3) := by decide +kernel
theorem dL_isTold_143 : decode cL_isTold 143 = .ok (.iconst 5, 1) := by decide +kernel
theorem dL_isTold_144 : decode cL_isTold 144 = .ok (.iload 11, 2) := by decide +kernel
theorem dL_isTold_146 : decode cL_isTold 146 = .ok (.imul, 1) := by decide +kernel
theorem dL_isTold_147 : decode cL_isTold 147 = .ok (.iconst 4, 1) := by decide +kernel
theorem dL_isTold_148 : decode cL_isTold 148 = .ok (.aload_n 2, 1) := by decide +kernel
theorem dL_isTold_149 : decode cL_isTold 149 = .ok (.bipush 8, 2) := by decide +kernel
theorem dL_isTold_151 : decode cL_isTold 151 = .ok (.iload 10, 2) := by decide +kernel
theorem dL_isTold_153 : decode cL_isTold 153 = .ok (.imul, 1) := by decide +kernel
theorem dL_isTold_154 : decode cL_isTold 154 = .ok (.bipush 6, 2) := by decide +kernel
theorem dL_isTold_156 : decode cL_isTold 156 = .ok (.iadd, 1) := by decide +kernel
theorem dL_isTold_157 : decode cL_isTold 157 = .ok (.iaload, 1) := by decide +kernel
theorem dL_isTold_158 : decode cL_isTold 158 = .ok (.imul, 1) := by decide +kernel
theorem dL_isTold_159 : decode cL_isTold 159 = .ok (.if_icmp .lt 7, 3) := by decide +kernel
theorem dL_isTold_162 : decode cL_isTold 162 = .ok (.iconst 1, 1) := by decide +kernel
theorem dL_isTold_163 : decode cL_isTold 163 = .ok (.goto 4, 3) := by decide +kernel
theorem dL_isTold_166 : decode cL_isTold 166 = .ok (.iconst 0, 1) := by decide +kernel
theorem dL_isTold_167 : decode cL_isTold 167 = .ok (.if_icmp .ne 42, 3) := by decide +kernel
theorem dL_isTold_170 : decode cL_isTold 170 = .ok (.aload_n 0, 1) := by decide +kernel
theorem dL_isTold_171 : decode cL_isTold 171 = .ok (.iload 10, 2) := by decide +kernel
theorem dL_isTold_173 : decode cL_isTold 173 = .ok (.bipush 6, 2) := by decide +kernel
theorem dL_isTold_175 : decode cL_isTold 175 = .ok (.invokestatic 110, 3) := by decide +kernel
theorem dL_isTold_178 : decode cL_isTold 178 = .ok (.aload_n 2, 1) := by decide +kernel
theorem dL_isTold_179 : decode cL_isTold 179 = .ok (.bipush 8, 2) := by decide +kernel
theorem dL_isTold_181 : decode cL_isTold 181 = .ok (.iload 10, 2) := by decide +kernel
theorem dL_isTold_183 : decode cL_isTold 183 = .ok (.imul, 1) := by decide +kernel
theorem dL_isTold_184 : decode cL_isTold 184 = .ok (.bipush 6, 2) := by decide +kernel
theorem dL_isTold_186 : decode cL_isTold 186 = .ok (.iadd, 1) := by decide +kernel
theorem dL_isTold_187 : decode cL_isTold 187 = .ok (.iaload, 1) := by decide +kernel
theorem dL_isTold_188 : decode cL_isTold 188 = .ok (.if_icmp .ne 21, 3) := by decide +kernel
theorem dL_isTold_191 : decode cL_isTold 191 = .ok (.aload_n 0, 1) := by decide +kernel
theorem dL_isTold_192 : decode cL_isTold 192 = .ok (.iload 10, 2) := by decide +kernel
theorem dL_isTold_194 : decode cL_isTold 194 = .ok (.invokestatic 116, 3) := by decide +kernel
theorem dL_isTold_197 : decode cL_isTold 197 = .ok (.aload_n 2, 1) := by decide +kernel
theorem dL_isTold_198 : decode cL_isTold 198 = .ok (.bipush 8, 2) := by decide +kernel
theorem dL_isTold_200 : decode cL_isTold 200 = .ok (.iload 10, 2) := by decide +kernel
theorem dL_isTold_202 : decode cL_isTold 202 = .ok (.imul, 1) := by decide +kernel
theorem dL_isTold_203 : decode cL_isTold 203 = .ok (.iconst 5, 1) := by decide +kernel
theorem dL_isTold_204 : decode cL_isTold 204 = .ok (.iadd, 1) := by decide +kernel
theorem dL_isTold_205 : decode cL_isTold 205 = .ok (.iaload, 1) := by decide +kernel
theorem dL_isTold_206 : decode cL_isTold 206 = .ok (.if_icmp .eq 5, 3) := by decide +kernel
theorem dL_isTold_209 : decode cL_isTold 209 = .ok (.iconst 0, 1) := by decide +kernel
theorem dL_isTold_210 : decode cL_isTold 210 = .ok (.ireturn, 1) := by decide +kernel
theorem dL_isTold_211 : decode cL_isTold 211 = .ok (.iconst 0, 1) := by decide +kernel
theorem dL_isTold_212 : decode cL_isTold 212 = .ok (.istore 14, 2) := by decide +kernel
theorem dL_isTold_214 : decode cL_isTold 214 = .ok (.iconst (-1), 1) := by decide +kernel
theorem dL_isTold_215 : decode cL_isTold 215 = .ok (.istore 15, 2) := by decide +kernel
theorem dL_isTold_217 : decode cL_isTold 217 = .ok (.iconst 5, 1) := by decide +kernel
theorem dL_isTold_218 : decode cL_isTold 218 = .ok (.istore 16, 2) := by decide +kernel
theorem dL_isTold_220 : decode cL_isTold 220 = .ok (.iload 16, 2) := by decide +kernel
theorem dL_isTold_222 : decode cL_isTold 222 = .ok (.ifCond .lt 99, 3) := by decide +kernel
theorem dL_isTold_225 : decode cL_isTold 225 = .ok (.aload_n 0, 1) := by decide +kernel
theorem dL_isTold_226 : decode cL_isTold 226 = .ok (.iload 16, 2) := by decide +kernel
theorem dL_isTold_228 : decode cL_isTold 228 = .ok (.iload 10, 2) := by decide +kernel
theorem dL_isTold_230 : decode cL_isTold 230 = .ok (.invokestatic 118, 3) := by decide +kernel
theorem dL_isTold_233 : decode cL_isTold 233 = .ok (.aload_n 3, 1) := by decide +kernel
theorem dL_isTold_234 : decode cL_isTold 234 = .ok (.bipush 6, 2) := by decide +kernel
theorem dL_isTold_236 : decode cL_isTold 236 = .ok (.iload 16, 2) := by decide +kernel
theorem dL_isTold_238 : decode cL_isTold 238 = .ok (.imul, 1) := by decide +kernel
theorem dL_isTold_239 : decode cL_isTold 239 = .ok (.iload 10, 2) := by decide +kernel
theorem dL_isTold_241 : decode cL_isTold 241 = .ok (.iadd, 1) := by decide +kernel
theorem dL_isTold_242 : decode cL_isTold 242 = .ok (.iaload, 1) := by decide +kernel
theorem dL_isTold_243 : decode cL_isTold 243 = .ok (.if_icmp .eq 5, 3) := by decide +kernel
theorem dL_isTold_246 : decode cL_isTold 246 = .ok (.iconst 0, 1) := by decide +kernel
theorem dL_isTold_247 : decode cL_isTold 247 = .ok (.ireturn, 1) := by decide +kernel
theorem dL_isTold_248 : decode cL_isTold 248 = .ok (.iload 14, 2) := by decide +kernel
theorem dL_isTold_250 : decode cL_isTold 250 = .ok (.aload_n 3, 1) := by decide +kernel
theorem dL_isTold_251 : decode cL_isTold 251 = .ok (.bipush 6, 2) := by decide +kernel
theorem dL_isTold_253 : decode cL_isTold 253 = .ok (.iload 16, 2) := by decide +kernel
theorem dL_isTold_255 : decode cL_isTold 255 = .ok (.imul, 1) := by decide +kernel
theorem dL_isTold_256 : decode cL_isTold 256 = .ok (.iload 10, 2) := by decide +kernel
theorem dL_isTold_258 : decode cL_isTold 258 = .ok (.iadd, 1) := by decide +kernel
theorem dL_isTold_259 : decode cL_isTold 259 = .ok (.iaload, 1) := by decide +kernel
theorem dL_isTold_260 : decode cL_isTold 260 = .ok (.iconst (-1), 1) := by decide +kernel
theorem dL_isTold_261 : decode cL_isTold 261 = .ok (.if_icmp .ne 7, 3) := by decide +kernel
theorem dL_isTold_264 : decode cL_isTold 264 = .ok (.iconst 0, 1) := by decide +kernel
theorem dL_isTold_265 : decode cL_isTold 265 = .ok (.goto 7, 3) := by decide +kernel
theorem dL_isTold_268 : decode cL_isTold 268 = .ok (.iconst 1, 1) := by decide +kernel
theorem dL_isTold_269 : decode cL_isTold 269 = .ok (.iload 16, 2) := by decide +kernel
theorem dL_isTold_271 : decode cL_isTold 271 = .ok (.ishl, 1) := by decide +kernel
theorem dL_isTold_272 : decode cL_isTold 272 = .ok (.ior, 1) := by decide +kernel
theorem dL_isTold_273 : decode cL_isTold 273 = .ok (.istore 14, 2) := by decide +kernel
theorem dL_isTold_275 : decode cL_isTold 275 = .ok (.aload 9, 2) := by decide +kernel
theorem dL_isTold_277 : decode cL_isTold 277 = .ok (.bipush 18, 2) := by decide +kernel
theorem dL_isTold_279 : decode cL_isTold 279 = .ok (.aload_n 2, 1) := by decide +kernel
theorem dL_isTold_280 : decode cL_isTold 280 = .ok (.bipush 8, 2) := by decide +kernel
theorem dL_isTold_282 : decode cL_isTold 282 = .ok (.iload 10, 2) := by decide +kernel
theorem dL_isTold_284 : decode cL_isTold 284 = .ok (.imul, 1) := by decide +kernel
theorem dL_isTold_285 : decode cL_isTold 285 = .ok (.iconst 1, 1) := by decide +kernel
theorem dL_isTold_286 : decode cL_isTold 286 = .ok (.iadd, 1) := by decide +kernel
theorem dL_isTold_287 : decode cL_isTold 287 = .ok (.iaload, 1) := by decide +kernel
theorem dL_isTold_288 : decode cL_isTold 288 = .ok (.iadd, 1) := by decide +kernel
theorem dL_isTold_289 : decode cL_isTold 289 = .ok (.iaload, 1) := by decide +kernel
theorem dL_isTold_290 : decode cL_isTold 290 = .ok (.iload 16, 2) := by decide +kernel
theorem dL_isTold_292 : decode cL_isTold 292 = .ok (.ishr, 1) := by decide +kernel
theorem dL_isTold_293 : decode cL_isTold 293 = .ok (.iconst 1, 1) := by decide +kernel
theorem dL_isTold_294 : decode cL_isTold 294 = .ok (.iand, 1) := by decide +kernel
theorem dL_isTold_295 : decode cL_isTold 295 = .ok (.iconst 1, 1) := by decide +kernel
theorem dL_isTold_296 : decode cL_isTold 296 = .ok (.if_icmp .ne 19, 3) := by decide +kernel
theorem dL_isTold_299 : decode cL_isTold 299 = .ok (.aload 9, 2) := by decide +kernel
theorem dL_isTold_301 : decode cL_isTold 301 = .ok (.iconst 5, 1) := by decide +kernel
theorem dL_isTold_302 : decode cL_isTold 302 = .ok (.iaload, 1) := by decide +kernel
theorem dL_isTold_303 : decode cL_isTold 303 = .ok (.iload 16, 2) := by decide +kernel
theorem dL_isTold_305 : decode cL_isTold 305 = .ok (.ishr, 1) := by decide +kernel
theorem dL_isTold_306 : decode cL_isTold 306 = .ok (.iconst 1, 1) := by decide +kernel
theorem dL_isTold_307 : decode cL_isTold 307 = .ok (.iand, 1) := by decide +kernel
theorem dL_isTold_308 : decode cL_isTold 308 = .ok (.ifCond .ne 7, 3) := by decide +kernel
theorem dL_isTold_311 : decode cL_isTold 311 = .ok (.iload 16, 2) := by decide +kernel
theorem dL_isTold_313 : decode cL_isTold 313 = .ok (.istore 15, 2) := by decide +kernel
theorem dL_isTold_315 : decode cL_isTold 315 = .ok (.iinc 16 (-1), 3) := by decide +kernel
theorem dL_isTold_318 : decode cL_isTold 318 = .ok (.goto (-98), 3) := by decide +kernel
theorem dL_isTold_321 : decode cL_isTold 321 = .ok (.iload 13, 2) := by decide +kernel
theorem dL_isTold_323 : decode cL_isTold 323 = .ok (.iconst (-1), 1) := by decide +kernel
theorem dL_isTold_324 : decode cL_isTold 324 = .ok (.if_icmp .ne 16, 3) := by decide +kernel
theorem dL_isTold_327 : decode cL_isTold 327 = .ok (.iload 14, 2) := by decide +kernel
theorem dL_isTold_329 : decode cL_isTold 329 = .ok (.ifCond .ne 7, 3) := by decide +kernel
theorem dL_isTold_332 : decode cL_isTold 332 = .ok (.iconst 1, 1) := by decide +kernel
theorem dL_isTold_333 : decode cL_isTold 333 = .ok (.goto 35, 3) := by decide +kernel
theorem dL_isTold_336 : decode cL_isTold 336 = .ok (.iconst 0, 1) := by decide +kernel
theorem dL_isTold_337 : decode cL_isTold 337 = .ok (.goto 31, 3) := by decide +kernel
theorem dL_isTold_340 : decode cL_isTold 340 = .ok (.iload 14, 2) := by decide +kernel
theorem dL_isTold_342 : decode cL_isTold 342 = .ok (.iconst 1, 1) := by decide +kernel
theorem dL_isTold_343 : decode cL_isTold 343 = .ok (.iload 13, 2) := by decide +kernel
theorem dL_isTold_345 : decode cL_isTold 345 = .ok (.ishl, 1) := by decide +kernel
theorem dL_isTold_346 : decode cL_isTold 346 = .ok (.if_icmp .ne 21, 3) := by decide +kernel
theorem dL_isTold_349 : decode cL_isTold 349 = .ok (.aload_n 2, 1) := by decide +kernel
theorem dL_isTold_350 : decode cL_isTold 350 = .ok (.bipush 8, 2) := by decide +kernel
theorem dL_isTold_352 : decode cL_isTold 352 = .ok (.iload 10, 2) := by decide +kernel
theorem dL_isTold_354 : decode cL_isTold 354 = .ok (.imul, 1) := by decide +kernel
theorem dL_isTold_355 : decode cL_isTold 355 = .ok (.iconst 5, 1) := by decide +kernel
theorem dL_isTold_356 : decode cL_isTold 356 = .ok (.iadd, 1) := by decide +kernel
theorem dL_isTold_357 : decode cL_isTold 357 = .ok (.iaload, 1) := by decide +kernel
theorem dL_isTold_358 : decode cL_isTold 358 = .ok (.iload 13, 2) := by decide +kernel
theorem dL_isTold_360 : decode cL_isTold 360 = .ok (.if_icmp .ne 7, 3) := by decide +kernel
theorem dL_isTold_363 : decode cL_isTold 363 = .ok (.iconst 1, 1) := by decide +kernel
theorem dL_isTold_364 : decode cL_isTold 364 = .ok (.goto 4, 3) := by decide +kernel
theorem dL_isTold_367 : decode cL_isTold 367 = .ok (.iconst 0, 1) := by decide +kernel
theorem dL_isTold_368 : decode cL_isTold 368 = .ok (.istore 16, 2) := by decide +kernel
theorem dL_isTold_370 : decode cL_isTold 370 = .ok (.aload_n 0, 1) := by decide +kernel
theorem dL_isTold_371 : decode cL_isTold 371 = .ok (.iload 10, 2) := by decide +kernel
theorem dL_isTold_373 : decode cL_isTold 373 = .ok (.invokestatic 120, 3) := by decide +kernel
theorem dL_isTold_376 : decode cL_isTold 376 = .ok (.iload 16, 2) := by decide +kernel
theorem dL_isTold_378 : decode cL_isTold 378 = .ok (.ifCond .eq 7, 3) := by decide +kernel
theorem dL_isTold_381 : decode cL_isTold 381 = .ok (.iconst 1, 1) := by decide +kernel
theorem dL_isTold_382 : decode cL_isTold 382 = .ok (.goto 4, 3) := by decide +kernel
theorem dL_isTold_385 : decode cL_isTold 385 = .ok (.iconst 0, 1) := by decide +kernel
theorem dL_isTold_386 : decode cL_isTold 386 = .ok (.if_icmp .ne 25, 3) := by decide +kernel
theorem dL_isTold_389 : decode cL_isTold 389 = .ok (.aload_n 0, 1) := by decide +kernel
theorem dL_isTold_390 : decode cL_isTold 390 = .ok (.iload 10, 2) := by decide +kernel
theorem dL_isTold_392 : decode cL_isTold 392 = .ok (.invokestatic 122, 3) := by decide +kernel
theorem dL_isTold_395 : decode cL_isTold 395 = .ok (.iload 13, 2) := by decide +kernel
theorem dL_isTold_397 : decode cL_isTold 397 = .ok (.iconst (-1), 1) := by decide +kernel
theorem dL_isTold_398 : decode cL_isTold 398 = .ok (.if_icmp .ne 8, 3) := by decide +kernel
theorem dL_isTold_401 : decode cL_isTold 401 = .ok (.iload 15, 2) := by decide +kernel
theorem dL_isTold_403 : decode cL_isTold 403 = .ok (.goto 5, 3) := by decide +kernel
theorem dL_isTold_406 : decode cL_isTold 406 = .ok (.iload 13, 2) := by decide +kernel
theorem dL_isTold_408 : decode cL_isTold 408 = .ok (.if_icmp .eq 5, 3) := by decide +kernel
theorem dL_isTold_411 : decode cL_isTold 411 = .ok (.iconst 0, 1) := by decide +kernel
theorem dL_isTold_412 : decode cL_isTold 412 = .ok (.ireturn, 1) := by decide +kernel
theorem dL_isTold_413 : decode cL_isTold 413 = .ok (.iinc 10 1, 3) := by decide +kernel
theorem dL_isTold_416 : decode cL_isTold 416 = .ok (.goto (-413), 3) := by decide +kernel
theorem dL_isTold_419 : decode cL_isTold 419 = .ok (.iload_n 1, 1) := by decide +kernel
theorem dL_isTold_420 : decode cL_isTold 420 = .ok (.bipush 6, 2) := by decide +kernel
theorem dL_isTold_422 : decode cL_isTold 422 = .ok (.invokestatic 124, 3) := by decide +kernel
theorem dL_isTold_425 : decode cL_isTold 425 = .ok (.istore 10, 2) := by decide +kernel
theorem dL_isTold_427 : decode cL_isTold 427 = .ok (.iload_n 1, 1) := by decide +kernel
theorem dL_isTold_428 : decode cL_isTold 428 = .ok (.iconst 5, 1) := by decide +kernel
theorem dL_isTold_429 : decode cL_isTold 429 = .ok (.ishr, 1) := by decide +kernel
theorem dL_isTold_430 : decode cL_isTold 430 = .ok (.bipush 6, 2) := by decide +kernel
theorem dL_isTold_432 : decode cL_isTold 432 = .ok (.invokestatic 124, 3) := by decide +kernel
theorem dL_isTold_435 : decode cL_isTold 435 = .ok (.istore 11, 2) := by decide +kernel
theorem dL_isTold_437 : decode cL_isTold 437 = .ok (.iload 10, 2) := by decide +kernel
theorem dL_isTold_439 : decode cL_isTold 439 = .ok (.iload 11, 2) := by decide +kernel
theorem dL_isTold_441 : decode cL_isTold 441 = .ok (.iconst 3, 1) := by decide +kernel
theorem dL_isTold_442 : decode cL_isTold 442 = .ok (.ishl, 1) := by decide +kernel
theorem dL_isTold_443 : decode cL_isTold 443 = .ok (.ior, 1) := by decide +kernel
theorem dL_isTold_444 : decode cL_isTold 444 = .ok (.istore 12, 2) := by decide +kernel
theorem dL_isTold_446 : decode cL_isTold 446 = .ok (.iconst 0, 1) := by decide +kernel
theorem dL_isTold_447 : decode cL_isTold 447 = .ok (.istore 13, 2) := by decide +kernel
theorem dL_isTold_449 : decode cL_isTold 449 = .ok (.iload 13, 2) := by decide +kernel
theorem dL_isTold_451 : decode cL_isTold 451 = .ok (.iconst 4, 1) := by decide +kernel
theorem dL_isTold_452 : decode cL_isTold 452 = .ok (.if_icmp .ge 37, 3) := by decide +kernel
theorem dL_isTold_455 : decode cL_isTold 455 = .ok (.aload_n 0, 1) := by decide +kernel
theorem dL_isTold_456 : decode cL_isTold 456 = .ok (.iload 10, 2) := by decide +kernel
theorem dL_isTold_458 : decode cL_isTold 458 = .ok (.iload 11, 2) := by decide +kernel
theorem dL_isTold_460 : decode cL_isTold 460 = .ok (.iload 13, 2) := by decide +kernel
theorem dL_isTold_462 : decode cL_isTold 462 = .ok (.invokestatic 127, 3) := by decide +kernel
theorem dL_isTold_465 : decode cL_isTold 465 = .ok (.iload 12, 2) := by decide +kernel
theorem dL_isTold_467 : decode cL_isTold 467 = .ok (.iload 13, 2) := by decide +kernel
theorem dL_isTold_469 : decode cL_isTold 469 = .ok (.aload 5, 2) := by decide +kernel
theorem dL_isTold_471 : decode cL_isTold 471 = .ok (.aload 6, 2) := by decide +kernel
theorem dL_isTold_473 : decode cL_isTold 473 = .ok (.aload 9, 2) := by decide +kernel
theorem dL_isTold_475 : decode cL_isTold 475 = .ok (.invokestatic 130, 3) := by decide +kernel
theorem dL_isTold_478 : decode cL_isTold 478 = .ok (.if_icmp .eq 5, 3) := by decide +kernel
theorem dL_isTold_481 : decode cL_isTold 481 = .ok (.iconst 0, 1) := by decide +kernel
theorem dL_isTold_482 : decode cL_isTold 482 = .ok (.ireturn, 1) := by decide +kernel
theorem dL_isTold_483 : decode cL_isTold 483 = .ok (.iinc 13 1, 3) := by decide +kernel
theorem dL_isTold_486 : decode cL_isTold 486 = .ok (.goto (-37), 3) := by decide +kernel
theorem dL_isTold_489 : decode cL_isTold 489 = .ok (.iload 12, 2) := by decide +kernel
theorem dL_isTold_491 : decode cL_isTold 491 = .ok (.iconst 2, 1) := by decide +kernel
theorem dL_isTold_492 : decode cL_isTold 492 = .ok (.aload 5, 2) := by decide +kernel
theorem dL_isTold_494 : decode cL_isTold 494 = .ok (.aload 6, 2) := by decide +kernel
theorem dL_isTold_496 : decode cL_isTold 496 = .ok (.aload 9, 2) := by decide +kernel
theorem dL_isTold_498 : decode cL_isTold 498 = .ok (.invokestatic 130, 3) := by decide +kernel
theorem dL_isTold_501 : decode cL_isTold 501 = .ok (.istore 13, 2) := by decide +kernel
theorem dL_isTold_503 : decode cL_isTold 503 = .ok (.iconst 0, 1) := by decide +kernel
theorem dL_isTold_504 : decode cL_isTold 504 = .ok (.istore 14, 2) := by decide +kernel
theorem dL_isTold_506 : decode cL_isTold 506 = .ok (.iconst 0, 1) := by decide +kernel
theorem dL_isTold_507 : decode cL_isTold 507 = .ok (.istore 15, 2) := by decide +kernel
theorem dL_isTold_509 : decode cL_isTold 509 = .ok (.iload 15, 2) := by decide +kernel
theorem dL_isTold_511 : decode cL_isTold 511 = .ok (.aload 9, 2) := by decide +kernel
theorem dL_isTold_513 : decode cL_isTold 513 = .ok (.iconst 3, 1) := by decide +kernel
theorem dL_isTold_514 : decode cL_isTold 514 = .ok (.iaload, 1) := by decide +kernel
theorem dL_isTold_515 : decode cL_isTold 515 = .ok (.if_icmp .ge 122, 3) := by decide +kernel
theorem dL_isTold_518 : decode cL_isTold 518 = .ok (.aload 5, 2) := by decide +kernel
theorem dL_isTold_520 : decode cL_isTold 520 = .ok (.iload 15, 2) := by decide +kernel
theorem dL_isTold_522 : decode cL_isTold 522 = .ok (.iaload, 1) := by decide +kernel
theorem dL_isTold_523 : decode cL_isTold 523 = .ok (.bipush 13, 2) := by decide +kernel
theorem dL_isTold_525 : decode cL_isTold 525 = .ok (.ishr, 1) := by decide +kernel
theorem dL_isTold_526 : decode cL_isTold 526 = .ok (.iconst 1, 1) := by decide +kernel
theorem dL_isTold_527 : decode cL_isTold 527 = .ok (.isub, 1) := by decide +kernel
theorem dL_isTold_528 : decode cL_isTold 528 = .ok (.istore 16, 2) := by decide +kernel
theorem dL_isTold_530 : decode cL_isTold 530 = .ok (.aload 5, 2) := by decide +kernel
theorem dL_isTold_532 : decode cL_isTold 532 = .ok (.iload 15, 2) := by decide +kernel
theorem dL_isTold_534 : decode cL_isTold 534 = .ok (.iaload, 1) := by decide +kernel
theorem dL_isTold_535 : decode cL_isTold 535 = .ok (.bipush 63, 2) := by decide +kernel
theorem dL_isTold_537 : decode cL_isTold 537 = .ok (.iand, 1) := by decide +kernel
theorem dL_isTold_538 : decode cL_isTold 538 = .ok (.iload 12, 2) := by decide +kernel
theorem dL_isTold_540 : decode cL_isTold 540 = .ok (.if_icmp .ne 91, 3) := by decide +kernel
theorem dL_isTold_543 : decode cL_isTold 543 = .ok (.aload 5, 2) := by decide +kernel
theorem dL_isTold_545 : decode cL_isTold 545 = .ok (.iload 15, 2) := by decide +kernel
theorem dL_isTold_547 : decode cL_isTold 547 = .ok (.iaload, 1) := by decide +kernel
theorem dL_isTold_548 : decode cL_isTold 548 = .ok (.bipush 6, 2) := by decide +kernel
theorem dL_isTold_550 : decode cL_isTold 550 = .ok (.ishr, 1) := by decide +kernel
theorem dL_isTold_551 : decode cL_isTold 551 = .ok (.iconst 3, 1) := by decide +kernel
theorem dL_isTold_552 : decode cL_isTold 552 = .ok (.iand, 1) := by decide +kernel
theorem dL_isTold_553 : decode cL_isTold 553 = .ok (.iconst 2, 1) := by decide +kernel
theorem dL_isTold_554 : decode cL_isTold 554 = .ok (.if_icmp .ne 77, 3) := by decide +kernel
theorem dL_isTold_557 : decode cL_isTold 557 = .ok (.iload 16, 2) := by decide +kernel
theorem dL_isTold_559 : decode cL_isTold 559 = .ok (.iconst (-1), 1) := by decide +kernel
theorem dL_isTold_560 : decode cL_isTold 560 = .ok (.if_icmp .ne 6, 3) := by decide +kernel
theorem dL_isTold_563 : decode cL_isTold 563 = .ok (.goto 68, 3) := by decide +kernel
theorem dL_isTold_566 : decode cL_isTold 566 = .ok (.aload 4, 2) := by decide +kernel
theorem dL_isTold_568 : decode cL_isTold 568 = .ok (.bipush 6, 2) := by decide +kernel
theorem dL_isTold_570 : decode cL_isTold 570 = .ok (.iload 16, 2) := by decide +kernel
theorem dL_isTold_572 : decode cL_isTold 572 = .ok (.imul, 1) := by decide +kernel
theorem dL_isTold_573 : decode cL_isTold 573 = .ok (.iconst 4, 1) := by decide +kernel
theorem dL_isTold_574 : decode cL_isTold 574 = .ok (.iadd, 1) := by decide +kernel
theorem dL_isTold_575 : decode cL_isTold 575 = .ok (.iaload, 1) := by decide +kernel
theorem dL_isTold_576 : decode cL_isTold 576 = .ok (.ifCond .le 22, 3) := by decide +kernel
theorem dL_isTold_579 : decode cL_isTold 579 = .ok (.iload 13, 2) := by decide +kernel
theorem dL_isTold_581 : decode cL_isTold 581 = .ok (.aload 4, 2) := by decide +kernel
theorem dL_isTold_583 : decode cL_isTold 583 = .ok (.bipush 6, 2) := by decide +kernel
theorem dL_isTold_585 : decode cL_isTold 585 = .ok (.iload 16, 2) := by decide +kernel
theorem dL_isTold_587 : decode cL_isTold 587 = .ok (.imul, 1) := by decide +kernel
theorem dL_isTold_588 : decode cL_isTold 588 = .ok (.iconst 4, 1) := by decide +kernel
theorem dL_isTold_589 : decode cL_isTold 589 = .ok (.iadd, 1) := by decide +kernel
theorem dL_isTold_590 : decode cL_isTold 590 = .ok (.iaload, 1) := by decide +kernel
theorem dL_isTold_591 : decode cL_isTold 591 = .ok (.if_icmp .lt 7, 3) := by decide +kernel
theorem dL_isTold_594 : decode cL_isTold 594 = .ok (.iconst 1, 1) := by decide +kernel
theorem dL_isTold_595 : decode cL_isTold 595 = .ok (.goto 4, 3) := by decide +kernel
theorem dL_isTold_598 : decode cL_isTold 598 = .ok (.iconst 0, 1) := by decide +kernel
theorem dL_isTold_599 : decode cL_isTold 599 = .ok (.istore 17, 2) := by decide +kernel
theorem dL_isTold_601 : decode cL_isTold 601 = .ok (.iload 14, 2) := by decide +kernel
theorem dL_isTold_603 : decode cL_isTold 603 = .ok (.aload 6, 2) := by decide +kernel
theorem dL_isTold_605 : decode cL_isTold 605 = .ok (.iload 15, 2) := by decide +kernel
theorem dL_isTold_607 : decode cL_isTold 607 = .ok (.iaload, 1) := by decide +kernel
theorem dL_isTold_608 : decode cL_isTold 608 = .ok (.aload 4, 2) := by decide +kernel
theorem dL_isTold_610 : decode cL_isTold 610 = .ok (.bipush 6, 2) := by decide +kernel
theorem dL_isTold_612 : decode cL_isTold 612 = .ok (.iload 16, 2) := by decide +kernel
theorem dL_isTold_614 : decode cL_isTold 614 = .ok (.imul, 1) := by decide +kernel
theorem dL_isTold_615 : decode cL_isTold 615 = .ok (.iload 17, 2) := by decide +kernel
theorem dL_isTold_617 : decode cL_isTold 617 = .ok (.ifCond .eq 7, 3) := by decide +kernel
theorem dL_isTold_620 : decode cL_isTold 620 = .ok (.iconst 5, 1) := by decide +kernel
theorem dL_isTold_621 : decode cL_isTold 621 = .ok (.goto 4, 3) := by decide +kernel
theorem dL_isTold_624 : decode cL_isTold 624 = .ok (.iconst 3, 1) := by decide +kernel
theorem dL_isTold_625 : decode cL_isTold 625 = .ok (.iadd, 1) := by decide +kernel
theorem dL_isTold_626 : decode cL_isTold 626 = .ok (.iaload, 1) := by decide +kernel
theorem dL_isTold_627 : decode cL_isTold 627 = .ok (.imul, 1) := by decide +kernel
theorem dL_isTold_628 : decode cL_isTold 628 = .ok (.iadd, 1) := by decide +kernel
theorem dL_isTold_629 : decode cL_isTold 629 = .ok (.istore 14, 2) := by decide +kernel
theorem dL_isTold_631 : decode cL_isTold 631 = .ok (.iinc 15 1, 3) := by decide +kernel
theorem dL_isTold_634 : decode cL_isTold 634 = .ok (.goto (-125), 3) := by decide +kernel
theorem dL_isTold_637 : decode cL_isTold 637 = .ok (.aload_n 0, 1) := by decide +kernel
theorem dL_isTold_638 : decode cL_isTold 638 = .ok (.iload 11, 2) := by decide +kernel
theorem dL_isTold_640 : decode cL_isTold 640 = .ok (.iload 10, 2) := by decide +kernel
theorem dL_isTold_642 : decode cL_isTold 642 = .ok (.invokestatic 134, 3) := by decide +kernel
theorem dL_isTold_645 : decode cL_isTold 645 = .ok (.iload 14, 2) := by decide +kernel
theorem dL_isTold_647 : decode cL_isTold 647 = .ok (.if_icmp .ne 35, 3) := by decide +kernel
theorem dL_isTold_650 : decode cL_isTold 650 = .ok (.aload_n 0, 1) := by decide +kernel
theorem dL_isTold_651 : decode cL_isTold 651 = .ok (.iload 11, 2) := by decide +kernel
theorem dL_isTold_653 : decode cL_isTold 653 = .ok (.iload 10, 2) := by decide +kernel
theorem dL_isTold_655 : decode cL_isTold 655 = .ok (.invokestatic 136, 3) := by decide +kernel
theorem dL_isTold_658 : decode cL_isTold 658 = .ok (.iload 14, 2) := by decide +kernel
theorem dL_isTold_660 : decode cL_isTold 660 = .ok (.if_icmp .ne 22, 3) := by decide +kernel
theorem dL_isTold_663 : decode cL_isTold 663 = .ok (.aload_n 0, 1) := by decide +kernel
theorem dL_isTold_664 : decode cL_isTold 664 = .ok (.iconst 0, 1) := by decide +kernel
theorem dL_isTold_665 : decode cL_isTold 665 = .ok (.aload 9, 2) := by decide +kernel
theorem dL_isTold_667 : decode cL_isTold 667 = .ok (.iconst 1, 1) := by decide +kernel
theorem dL_isTold_668 : decode cL_isTold 668 = .ok (.iaload, 1) := by decide +kernel
theorem dL_isTold_669 : decode cL_isTold 669 = .ok (.invokestatic 118, 3) := by decide +kernel
theorem dL_isTold_672 : decode cL_isTold 672 = .ok (.sipush (-7100), 3) := by decide +kernel
theorem dL_isTold_675 : decode cL_isTold 675 = .ok (.if_icmp .ne 7, 3) := by decide +kernel
theorem dL_isTold_678 : decode cL_isTold 678 = .ok (.iconst 1, 1) := by decide +kernel
theorem dL_isTold_679 : decode cL_isTold 679 = .ok (.goto 4, 3) := by decide +kernel
theorem dL_isTold_682 : decode cL_isTold 682 = .ok (.iconst 0, 1) := by decide +kernel
theorem dL_isTold_683 : decode cL_isTold 683 = .ok (.ireturn, 1) := by decide +kernel
theorem dL_law_0 : decode cL_law 0 = .ok (.new 9, 3) := by decide +kernel
theorem dL_law_3 : decode cL_law 3 = .ok (.dup, 1) := by decide +kernel
theorem dL_law_4 : decode cL_law 4 = .ok (.invokespecial 138, 3) := by decide +kernel
theorem dL_law_7 : decode cL_law 7 = .ok (.astore_n 1, 1) := by decide +kernel
theorem dL_law_8 : decode cL_law 8 = .ok (.bipush 44, 2) := by decide +kernel
theorem dL_law_10 : decode cL_law 10 = .ok (.newarray .int, 2) := by decide +kernel
theorem dL_law_12 : decode cL_law 12 = .ok (.astore_n 2, 1) := by decide +kernel
theorem dL_law_13 : decode cL_law 13 = .ok (.bipush 48, 2) := by decide +kernel
theorem dL_law_15 : decode cL_law 15 = .ok (.newarray .int, 2) := by decide +kernel
theorem dL_law_17 : decode cL_law 17 = .ok (.astore_n 3, 1) := by decide +kernel
theorem dL_law_18 : decode cL_law 18 = .ok (.bipush 36, 2) := by decide +kernel
theorem dL_law_20 : decode cL_law 20 = .ok (.newarray .int, 2) := by decide +kernel
theorem dL_law_22 : decode cL_law 22 = .ok (.astore 4, 2) := by decide +kernel
theorem dL_law_24 : decode cL_law 24 = .ok (.bipush 60, 2) := by decide +kernel
theorem dL_law_26 : decode cL_law 26 = .ok (.newarray .int, 2) := by decide +kernel
theorem dL_law_28 : decode cL_law 28 = .ok (.astore 5, 2) := by decide +kernel
theorem dL_law_30 : decode cL_law 30 = .ok (.bipush 60, 2) := by decide +kernel
theorem dL_law_32 : decode cL_law 32 = .ok (.newarray .int, 2) := by decide +kernel
theorem dL_law_34 : decode cL_law 34 = .ok (.astore 6, 2) := by decide +kernel
theorem dL_law_36 : decode cL_law 36 = .ok (.bipush 60, 2) := by decide +kernel
theorem dL_law_38 : decode cL_law 38 = .ok (.newarray .int, 2) := by decide +kernel
theorem dL_law_40 : decode cL_law 40 = .ok (.astore 7, 2) := by decide +kernel
theorem dL_law_42 : decode cL_law 42 = .ok (.bipush 60, 2) := by decide +kernel
theorem dL_law_44 : decode cL_law 44 = .ok (.newarray .int, 2) := by decide +kernel
theorem dL_law_46 : decode cL_law 46 = .ok (.astore 8, 2) := by decide +kernel
theorem dL_law_48 : decode cL_law 48 = .ok (.bipush 60, 2) := by decide +kernel
theorem dL_law_50 : decode cL_law 50 = .ok (.newarray .int, 2) := by decide +kernel
theorem dL_law_52 : decode cL_law 52 = .ok (.astore 9, 2) := by decide +kernel
theorem dL_law_54 : decode cL_law 54 = .ok (.bipush 60, 2) := by decide +kernel
theorem dL_law_56 : decode cL_law 56 = .ok (.newarray .int, 2) := by decide +kernel
theorem dL_law_58 : decode cL_law 58 = .ok (.astore 10, 2) := by decide +kernel
theorem dL_law_60 : decode cL_law 60 = .ok (.bipush 48, 2) := by decide +kernel
theorem dL_law_62 : decode cL_law 62 = .ok (.newarray .int, 2) := by decide +kernel
theorem dL_law_64 : decode cL_law 64 = .ok (.astore 11, 2) := by decide +kernel
theorem dL_law_66 : decode cL_law 66 = .ok (.iconst 0, 1) := by decide +kernel
theorem dL_law_67 : decode cL_law 67 = .ok (.istore 12, 2) := by decide +kernel
theorem dL_law_69 : decode cL_law 69 = .ok (.iload 12, 2) := by decide +kernel
theorem dL_law_71 : decode cL_law 71 = .ok (.bipush 36, 2) := by decide +kernel
theorem dL_law_73 : decode cL_law 73 = .ok (.if_icmp .ge 15, 3) := by decide +kernel
theorem dL_law_76 : decode cL_law 76 = .ok (.aload 4, 2) := by decide +kernel
theorem dL_law_78 : decode cL_law 78 = .ok (.iload 12, 2) := by decide +kernel
theorem dL_law_80 : decode cL_law 80 = .ok (.iconst (-1), 1) := by decide +kernel
theorem dL_law_81 : decode cL_law 81 = .ok (.iastore, 1) := by decide +kernel
theorem dL_law_82 : decode cL_law 82 = .ok (.iinc 12 1, 3) := by decide +kernel
theorem dL_law_85 : decode cL_law 85 = .ok (.goto (-16), 3) := by decide +kernel
theorem dL_law_88 : decode cL_law 88 = .ok (.iconst 0, 1) := by decide +kernel
theorem dL_law_89 : decode cL_law 89 = .ok (.istore 12, 2) := by decide +kernel
theorem dL_law_91 : decode cL_law 91 = .ok (.iload 12, 2) := by decide +kernel
theorem dL_law_93 : decode cL_law 93 = .ok (.bipush 6, 2) := by decide +kernel
theorem dL_law_95 : decode cL_law 95 = .ok (.if_icmp .ge 50, 3) := by decide +kernel
theorem dL_law_98 : decode cL_law 98 = .ok (.aload_n 2, 1) := by decide +kernel
theorem dL_law_99 : decode cL_law 99 = .ok (.bipush 6, 2) := by decide +kernel
theorem dL_law_101 : decode cL_law 101 = .ok (.iload 12, 2) := by decide +kernel
theorem dL_law_103 : decode cL_law 103 = .ok (.iadd, 1) := by decide +kernel
theorem dL_law_104 : decode cL_law 104 = .ok (.iconst (-1), 1) := by decide +kernel
theorem dL_law_105 : decode cL_law 105 = .ok (.iastore, 1) := by decide +kernel
theorem dL_law_106 : decode cL_law 106 = .ok (.aload_n 2, 1) := by decide +kernel
theorem dL_law_107 : decode cL_law 107 = .ok (.bipush 26, 2) := by decide +kernel
theorem dL_law_109 : decode cL_law 109 = .ok (.iconst 3, 1) := by decide +kernel
theorem dL_law_110 : decode cL_law 110 = .ok (.iload 12, 2) := by decide +kernel
theorem dL_law_112 : decode cL_law 112 = .ok (.imul, 1) := by decide +kernel
theorem dL_law_113 : decode cL_law 113 = .ok (.iadd, 1) := by decide +kernel
theorem dL_law_114 : decode cL_law 114 = .ok (.bipush 10, 2) := by decide +kernel
theorem dL_law_116 : decode cL_law 116 = .ok (.iastore, 1) := by decide +kernel
theorem dL_law_117 : decode cL_law 117 = .ok (.aload_n 2, 1) := by decide +kernel
theorem dL_law_118 : decode cL_law 118 = .ok (.bipush 27, 2) := by decide +kernel
theorem dL_law_120 : decode cL_law 120 = .ok (.iconst 3, 1) := by decide +kernel
theorem dL_law_121 : decode cL_law 121 = .ok (.iload 12, 2) := by decide +kernel
theorem dL_law_123 : decode cL_law 123 = .ok (.imul, 1) := by decide +kernel
theorem dL_law_124 : decode cL_law 124 = .ok (.iadd, 1) := by decide +kernel
theorem dL_law_125 : decode cL_law 125 = .ok (.bipush 50, 2) := by decide +kernel
theorem dL_law_127 : decode cL_law 127 = .ok (.iastore, 1) := by decide +kernel
theorem dL_law_128 : decode cL_law 128 = .ok (.aload_n 2, 1) := by decide +kernel
theorem dL_law_129 : decode cL_law 129 = .ok (.bipush 28, 2) := by decide +kernel
theorem dL_law_131 : decode cL_law 131 = .ok (.iconst 3, 1) := by decide +kernel
theorem dL_law_132 : decode cL_law 132 = .ok (.iload 12, 2) := by decide +kernel
theorem dL_law_134 : decode cL_law 134 = .ok (.imul, 1) := by decide +kernel
theorem dL_law_135 : decode cL_law 135 = .ok (.iadd, 1) := by decide +kernel
theorem dL_law_136 : decode cL_law 136 = .ok (.bipush 20, 2) := by decide +kernel
theorem dL_law_138 : decode cL_law 138 = .ok (.iastore, 1) := by decide +kernel
theorem dL_law_139 : decode cL_law 139 = .ok (.iinc 12 1, 3) := by decide +kernel
theorem dL_law_142 : decode cL_law 142 = .ok (.goto (-51), 3) := by decide +kernel
theorem dL_law_145 : decode cL_law 145 = .ok (.iconst 0, 1) := by decide +kernel
theorem dL_law_146 : decode cL_law 146 = .ok (.istore 12, 2) := by decide +kernel
theorem dL_law_148 : decode cL_law 148 = .ok (.iload 12, 2) := by decide +kernel
theorem dL_law_150 : decode cL_law 150 = .ok (.sipush 140, 3) := by decide +kernel
theorem dL_law_153 : decode cL_law 153 = .ok (.if_icmp .ge 3176, 3) := by decide +kernel
theorem dL_law_156 : decode cL_law 156 = .ok (.aload_n 0, 1) := by decide +kernel
theorem dL_law_157 : decode cL_law 157 = .ok (.iconst 2, 1) := by decide +kernel
theorem dL_law_158 : decode cL_law 158 = .ok (.iload 12, 2) := by decide +kernel
theorem dL_law_160 : decode cL_law 160 = .ok (.imul, 1) := by decide +kernel
theorem dL_law_161 : decode cL_law 161 = .ok (.invokestatic 139, 3) := by decide +kernel
theorem dL_law_164 : decode cL_law 164 = .ok (.istore 13, 2) := by decide +kernel
theorem dL_law_166 : decode cL_law 166 = .ok (.aload_n 0, 1) := by decide +kernel
theorem dL_law_167 : decode cL_law 167 = .ok (.iconst 2, 1) := by decide +kernel
theorem dL_law_168 : decode cL_law 168 = .ok (.iload 12, 2) := by decide +kernel
theorem dL_law_170 : decode cL_law 170 = .ok (.imul, 1) := by decide +kernel
theorem dL_law_171 : decode cL_law 171 = .ok (.iconst 1, 1) := by decide +kernel
theorem dL_law_172 : decode cL_law 172 = .ok (.iadd, 1) := by decide +kernel
theorem dL_law_173 : decode cL_law 173 = .ok (.invokestatic 139, 3) := by decide +kernel
theorem dL_law_176 : decode cL_law 176 = .ok (.istore 14, 2) := by decide +kernel
theorem dL_law_178 : decode cL_law 178 = .ok (.iload 13, 2) := by decide +kernel
theorem dL_law_180 : decode cL_law 180 = .ok (.iconst 5, 1) := by decide +kernel
theorem dL_law_181 : decode cL_law 181 = .ok (.ishr, 1) := by decide +kernel
theorem dL_law_182 : decode cL_law 182 = .ok (.iload 13, 2) := by decide +kernel
theorem dL_law_184 : decode cL_law 184 = .ok (.ldc 143, 2) := by decide +kernel
theorem dL_law_186 : decode cL_law 186 = .ok (.iand, 1) := by decide +kernel
theorem dL_law_187 : decode cL_law 187 = .ok (.ifCond .ne 7, 3) := by decide +kernel
theorem dL_law_190 : decode cL_law 190 = .ok (.iconst 3, 1) := by decide +kernel
theorem dL_law_191 : decode cL_law 191 = .ok (.goto 5, 3) := by decide +kernel
theorem dL_law_194 : decode cL_law 194 = .ok (.bipush 6, 2) := by decide +kernel
theorem dL_law_196 : decode cL_law 196 = .ok (.invokestatic 124, 3) := by decide +kernel
theorem dL_law_199 : decode cL_law 199 = .ok (.istore 15, 2) := by decide +kernel
theorem dL_law_201 : decode cL_law 201 = .ok (.aload_n 2, 1) := by decide +kernel
theorem dL_law_202 : decode cL_law 202 = .ok (.iconst 1, 1) := by decide +kernel
theorem dL_law_203 : decode cL_law 203 = .ok (.iaload, 1) := by decide +kernel
theorem dL_law_204 : decode cL_law 204 = .ok (.ifCond .ne 7, 3) := by decide +kernel
theorem dL_law_207 : decode cL_law 207 = .ok (.iconst 0, 1) := by decide +kernel
theorem dL_law_208 : decode cL_law 208 = .ok (.goto 14, 3) := by decide +kernel
theorem dL_law_211 : decode cL_law 211 = .ok (.iload 13, 2) := by decide +kernel
theorem dL_law_213 : decode cL_law 213 = .ok (.bipush 9, 2) := by decide +kernel
theorem dL_law_215 : decode cL_law 215 = .ok (.ishr, 1) := by decide +kernel
theorem dL_law_216 : decode cL_law 216 = .ok (.aload_n 2, 1) := by decide +kernel
theorem dL_law_217 : decode cL_law 217 = .ok (.iconst 1, 1) := by decide +kernel
theorem dL_law_218 : decode cL_law 218 = .ok (.iaload, 1) := by decide +kernel
theorem dL_law_219 : decode cL_law 219 = .ok (.invokestatic 124, 3) := by decide +kernel
theorem dL_law_222 : decode cL_law 222 = .ok (.istore 16, 2) := by decide +kernel
theorem dL_law_224 : decode cL_law 224 = .ok (.aload_n 2, 1) := by decide +kernel
theorem dL_law_225 : decode cL_law 225 = .ok (.iconst 1, 1) := by decide +kernel
theorem dL_law_226 : decode cL_law 226 = .ok (.iaload, 1) := by decide +kernel
theorem dL_law_227 : decode cL_law 227 = .ok (.ifCond .ne 7, 3) := by decide +kernel
theorem dL_law_230 : decode cL_law 230 = .ok (.iconst 0, 1) := by decide +kernel
theorem dL_law_231 : decode cL_law 231 = .ok (.goto 14, 3) := by decide +kernel
theorem dL_law_234 : decode cL_law 234 = .ok (.iload 13, 2) := by decide +kernel
theorem dL_law_236 : decode cL_law 236 = .ok (.bipush 12, 2) := by decide +kernel
theorem dL_law_238 : decode cL_law 238 = .ok (.ishr, 1) := by decide +kernel
theorem dL_law_239 : decode cL_law 239 = .ok (.aload_n 2, 1) := by decide +kernel
theorem dL_law_240 : decode cL_law 240 = .ok (.iconst 1, 1) := by decide +kernel
theorem dL_law_241 : decode cL_law 241 = .ok (.iaload, 1) := by decide +kernel
theorem dL_law_242 : decode cL_law 242 = .ok (.invokestatic 124, 3) := by decide +kernel
theorem dL_law_245 : decode cL_law 245 = .ok (.istore 17, 2) := by decide +kernel
theorem dL_law_247 : decode cL_law 247 = .ok (.iconst 1, 1) := by decide +kernel
theorem dL_law_248 : decode cL_law 248 = .ok (.istore 18, 2) := by decide +kernel
theorem dL_law_250 : decode cL_law 250 = .ok (.iload 12, 2) := by decide +kernel
theorem dL_law_252 : decode cL_law 252 = .ok (.iconst 3, 1) := by decide +kernel
theorem dL_law_253 : decode cL_law 253 = .ok (.if_icmp .ge 7, 3) := by decide +kernel
theorem dL_law_256 : decode cL_law 256 = .ok (.iconst 0, 1) := by decide +kernel
theorem dL_law_257 : decode cL_law 257 = .ok (.goto 33, 3) := by decide +kernel
theorem dL_law_260 : decode cL_law 260 = .ok (.iload 12, 2) := by decide +kernel
theorem dL_law_262 : decode cL_law 262 = .ok (.bipush 6, 2) := by decide +kernel
theorem dL_law_264 : decode cL_law 264 = .ok (.if_icmp .ge 8, 3) := by decide +kernel
theorem dL_law_267 : decode cL_law 267 = .ok (.bipush 7, 2) := by decide +kernel
theorem dL_law_269 : decode cL_law 269 = .ok (.goto 21, 3) := by decide +kernel
theorem dL_law_272 : decode cL_law 272 = .ok (.iload 12, 2) := by decide +kernel
theorem dL_law_274 : decode cL_law 274 = .ok (.bipush 10, 2) := by decide +kernel
theorem dL_law_276 : decode cL_law 276 = .ok (.if_icmp .ge 7, 3) := by decide +kernel
theorem dL_law_279 : decode cL_law 279 = .ok (.iconst 2, 1) := by decide +kernel
theorem dL_law_280 : decode cL_law 280 = .ok (.goto 10, 3) := by decide +kernel
theorem dL_law_283 : decode cL_law 283 = .ok (.iload 13, 2) := by decide +kernel
theorem dL_law_285 : decode cL_law 285 = .ok (.bipush 26, 2) := by decide +kernel
theorem dL_law_287 : decode cL_law 287 = .ok (.invokestatic 124, 3) := by decide +kernel
theorem dL_law_290 : decode cL_law 290 = .ok (.tableswitch 2789 0 23 #[110, 264, 426, 426, 718, 810, 899, 944, 944, 1082, 1205, 1260, 1353, 1353, 1353, 1353, 1607, 1713, 1713, 1713, 1713, 2314, 2314, 2487], 110) := by decide +kernel
theorem dL_law_400 : decode cL_law 400 = .ok (.iload 12, 2) := by decide +kernel
theorem dL_law_402 : decode cL_law 402 = .ok (.iconst 3, 1) := by decide +kernel
theorem dL_law_403 : decode cL_law 403 = .ok (.if_icmp .ge 8, 3) := by decide +kernel
theorem dL_law_406 : decode cL_law 406 = .ok (.iload 12, 2) := by decide +kernel
theorem dL_law_408 : decode cL_law 408 = .ok (.goto 9, 3) := by decide +kernel
theorem dL_law_411 : decode cL_law 411 = .ok (.iload 14, 2) := by decide +kernel
theorem dL_law_413 : decode cL_law 413 = .ok (.iconst 4, 1) := by decide +kernel
theorem dL_law_414 : decode cL_law 414 = .ok (.invokestatic 124, 3) := by decide +kernel
theorem dL_law_417 : decode cL_law 417 = .ok (.istore 19, 2) := by decide +kernel
theorem dL_law_419 : decode cL_law 419 = .ok (.iload 12, 2) := by decide +kernel
theorem dL_law_421 : decode cL_law 421 = .ok (.iconst 3, 1) := by decide +kernel
theorem dL_law_422 : decode cL_law 422 = .ok (.if_icmp .ge 11, 3) := by decide +kernel
theorem dL_law_425 : decode cL_law 425 = .ok (.bipush 7, 2) := by decide +kernel
theorem dL_law_427 : decode cL_law 427 = .ok (.iload 12, 2) := by decide +kernel
theorem dL_law_429 : decode cL_law 429 = .ok (.ishl, 1) := by decide +kernel
theorem dL_law_430 : decode cL_law 430 = .ok (.goto 14, 3) := by decide +kernel
theorem dL_law_433 : decode cL_law 433 = .ok (.iload 14, 2) := by decide +kernel
theorem dL_law_435 : decode cL_law 435 = .ok (.iconst 3, 1) := by decide +kernel
theorem dL_law_436 : decode cL_law 436 = .ok (.ishr, 1) := by decide +kernel
theorem dL_law_437 : decode cL_law 437 = .ok (.bipush 64, 2) := by decide +kernel
theorem dL_law_439 : decode cL_law 439 = .ok (.invokestatic 124, 3) := by decide +kernel
theorem dL_law_442 : decode cL_law 442 = .ok (.iconst 1, 1) := by decide +kernel
theorem dL_law_443 : decode cL_law 443 = .ok (.ior, 1) := by decide +kernel
theorem dL_law_444 : decode cL_law 444 = .ok (.istore 20, 2) := by decide +kernel
theorem dL_law_446 : decode cL_law 446 = .ok (.aload_n 1, 1) := by decide +kernel
theorem dL_law_447 : decode cL_law 447 = .ok (.iload 19, 2) := by decide +kernel
theorem dL_law_449 : decode cL_law 449 = .ok (.iload 20, 2) := by decide +kernel
theorem dL_law_451 : decode cL_law 451 = .ok (.invokestatic 144, 3) := by decide +kernel
theorem dL_law_454 : decode cL_law 454 = .ok (.aload_n 2, 1) := by decide +kernel
theorem dL_law_455 : decode cL_law 455 = .ok (.bipush 18, 2) := by decide +kernel
theorem dL_law_457 : decode cL_law 457 = .ok (.iload 19, 2) := by decide +kernel
theorem dL_law_459 : decode cL_law 459 = .ok (.iadd, 1) := by decide +kernel
theorem dL_law_460 : decode cL_law 460 = .ok (.iaload, 1) := by decide +kernel
theorem dL_law_461 : decode cL_law 461 = .ok (.if_icmp .ne 7, 3) := by decide +kernel
theorem dL_law_464 : decode cL_law 464 = .ok (.iconst 1, 1) := by decide +kernel
theorem dL_law_465 : decode cL_law 465 = .ok (.goto 4, 3) := by decide +kernel
theorem dL_law_468 : decode cL_law 468 = .ok (.iconst 0, 1) := by decide +kernel
theorem dL_law_469 : decode cL_law 469 = .ok (.istore 18, 2) := by decide +kernel
theorem dL_law_471 : decode cL_law 471 = .ok (.aload_n 2, 1) := by decide +kernel
theorem dL_law_472 : decode cL_law 472 = .ok (.bipush 18, 2) := by decide +kernel
theorem dL_law_474 : decode cL_law 474 = .ok (.iload 19, 2) := by decide +kernel
theorem dL_law_476 : decode cL_law 476 = .ok (.iadd, 1) := by decide +kernel
theorem dL_law_477 : decode cL_law 477 = .ok (.iload 20, 2) := by decide +kernel
theorem dL_law_479 : decode cL_law 479 = .ok (.iastore, 1) := by decide +kernel
theorem dL_law_480 : decode cL_law 480 = .ok (.iconst 0, 1) := by decide +kernel
theorem dL_law_481 : decode cL_law 481 = .ok (.istore 21, 2) := by decide +kernel
theorem dL_law_483 : decode cL_law 483 = .ok (.iload 21, 2) := by decide +kernel
theorem dL_law_485 : decode cL_law 485 = .ok (.aload_n 2, 1) := by decide +kernel
theorem dL_law_486 : decode cL_law 486 = .ok (.iconst 1, 1) := by decide +kernel
theorem dL_law_487 : decode cL_law 487 = .ok (.iaload, 1) := by decide +kernel
theorem dL_law_488 : decode cL_law 488 = .ok (.if_icmp .ge 63, 3) := by decide +kernel
theorem dL_law_491 : decode cL_law 491 = .ok (.aload_n 3, 1) := by decide +kernel
theorem dL_law_492 : decode cL_law 492 = .ok (.bipush 8, 2) := by decide +kernel
theorem dL_law_494 : decode cL_law 494 = .ok (.iload 21, 2) := by decide +kernel
theorem dL_law_496 : decode cL_law 496 = .ok (.imul, 1) := by decide +kernel
theorem dL_law_497 : decode cL_law 497 = .ok (.iconst 1, 1) := by decide +kernel
theorem dL_law_498 : decode cL_law 498 = .ok (.iadd, 1) := by decide +kernel
theorem dL_law_499 : decode cL_law 499 = .ok (.iaload, 1) := by decide +kernel
theorem dL_law_500 : decode cL_law 500 = .ok (.iload 19, 2) := by decide +kernel
theorem dL_law_502 : decode cL_law 502 = .ok (.if_icmp .ne 43, 3) := by decide +kernel
theorem dL_law_505 : decode cL_law 505 = .ok (.aload_n 3, 1) := by decide +kernel
theorem dL_law_506 : decode cL_law 506 = .ok (.bipush 8, 2) := by decide +kernel
theorem dL_law_508 : decode cL_law 508 = .ok (.iload 21, 2) := by decide +kernel
theorem dL_law_510 : decode cL_law 510 = .ok (.imul, 1) := by decide +kernel
theorem dL_law_511 : decode cL_law 511 = .ok (.iconst 3, 1) := by decide +kernel
theorem dL_law_512 : decode cL_law 512 = .ok (.iadd, 1) := by decide +kernel
theorem dL_law_513 : decode cL_law 513 = .ok (.iaload, 1) := by decide +kernel
theorem dL_law_514 : decode cL_law 514 = .ok (.iconst (-1), 1) := by decide +kernel
theorem dL_law_515 : decode cL_law 515 = .ok (.if_icmp .eq 30, 3) := by decide +kernel
theorem dL_law_518 : decode cL_law 518 = .ok (.iload 20, 2) := by decide +kernel
theorem dL_law_520 : decode cL_law 520 = .ok (.aload_n 3, 1) := by decide +kernel
theorem dL_law_521 : decode cL_law 521 = .ok (.bipush 8, 2) := by decide +kernel
theorem dL_law_523 : decode cL_law 523 = .ok (.iload 21, 2) := by decide +kernel
theorem dL_law_525 : decode cL_law 525 = .ok (.imul, 1) := by decide +kernel
theorem dL_law_526 : decode cL_law 526 = .ok (.iconst 3, 1) := by decide +kernel
theorem dL_law_527 : decode cL_law 527 = .ok (.iadd, 1) := by decide +kernel
theorem dL_law_528 : decode cL_law 528 = .ok (.iaload, 1) := by decide +kernel
theorem dL_law_529 : decode cL_law 529 = .ok (.ishr, 1) := by decide +kernel
theorem dL_law_530 : decode cL_law 530 = .ok (.iconst 1, 1) := by decide +kernel
theorem dL_law_531 : decode cL_law 531 = .ok (.iand, 1) := by decide +kernel
theorem dL_law_532 : decode cL_law 532 = .ok (.ifCond .ne 13, 3) := by decide +kernel
theorem dL_law_535 : decode cL_law 535 = .ok (.aload_n 3, 1) := by decide +kernel
theorem dL_law_536 : decode cL_law 536 = .ok (.bipush 8, 2) := by decide +kernel
theorem dL_law_538 : decode cL_law 538 = .ok (.iload 21, 2) := by decide +kernel
theorem dL_law_540 : decode cL_law 540 = .ok (.imul, 1) := by decide +kernel
theorem dL_law_541 : decode cL_law 541 = .ok (.iconst 3, 1) := by decide +kernel
theorem dL_law_542 : decode cL_law 542 = .ok (.iadd, 1) := by decide +kernel
theorem dL_law_543 : decode cL_law 543 = .ok (.iconst (-1), 1) := by decide +kernel
theorem dL_law_544 : decode cL_law 544 = .ok (.iastore, 1) := by decide +kernel
theorem dL_law_545 : decode cL_law 545 = .ok (.iinc 21 1, 3) := by decide +kernel
theorem dL_law_548 : decode cL_law 548 = .ok (.goto (-65), 3) := by decide +kernel
theorem dL_law_551 : decode cL_law 551 = .ok (.goto 2737, 3) := by decide +kernel
theorem dL_law_554 : decode cL_law 554 = .ok (.iload 14, 2) := by decide +kernel
theorem dL_law_556 : decode cL_law 556 = .ok (.bipush 6, 2) := by decide +kernel
theorem dL_law_558 : decode cL_law 558 = .ok (.iand, 1) := by decide +kernel
theorem dL_law_559 : decode cL_law 559 = .ok (.ifCond .ne 7, 3) := by decide +kernel
theorem dL_law_562 : decode cL_law 562 = .ok (.iconst 1, 1) := by decide +kernel
theorem dL_law_563 : decode cL_law 563 = .ok (.goto 4, 3) := by decide +kernel
theorem dL_law_566 : decode cL_law 566 = .ok (.iconst 0, 1) := by decide +kernel
theorem dL_law_567 : decode cL_law 567 = .ok (.istore 21, 2) := by decide +kernel
theorem dL_law_569 : decode cL_law 569 = .ok (.aload_n 1, 1) := by decide +kernel
theorem dL_law_570 : decode cL_law 570 = .ok (.iload 15, 2) := by decide +kernel
theorem dL_law_572 : decode cL_law 572 = .ok (.iload 21, 2) := by decide +kernel
theorem dL_law_574 : decode cL_law 574 = .ok (.invokestatic 146, 3) := by decide +kernel
theorem dL_law_577 : decode cL_law 577 = .ok (.aload_n 2, 1) := by decide +kernel
theorem dL_law_578 : decode cL_law 578 = .ok (.iconst 5, 1) := by decide +kernel
theorem dL_law_579 : decode cL_law 579 = .ok (.iaload, 1) := by decide +kernel
theorem dL_law_580 : decode cL_law 580 = .ok (.iload 15, 2) := by decide +kernel
theorem dL_law_582 : decode cL_law 582 = .ok (.ishr, 1) := by decide +kernel
theorem dL_law_583 : decode cL_law 583 = .ok (.iconst 1, 1) := by decide +kernel
theorem dL_law_584 : decode cL_law 584 = .ok (.iand, 1) := by decide +kernel
theorem dL_law_585 : decode cL_law 585 = .ok (.if_icmp .ne 7, 3) := by decide +kernel
theorem dL_law_588 : decode cL_law 588 = .ok (.iconst 1, 1) := by decide +kernel
theorem dL_law_589 : decode cL_law 589 = .ok (.goto 4, 3) := by decide +kernel
theorem dL_law_592 : decode cL_law 592 = .ok (.iconst 0, 1) := by decide +kernel
theorem dL_law_593 : decode cL_law 593 = .ok (.istore 18, 2) := by decide +kernel
theorem dL_law_595 : decode cL_law 595 = .ok (.aload_n 2, 1) := by decide +kernel
theorem dL_law_596 : decode cL_law 596 = .ok (.iconst 5, 1) := by decide +kernel
theorem dL_law_597 : decode cL_law 597 = .ok (.iload 21, 2) := by decide +kernel
theorem dL_law_599 : decode cL_law 599 = .ok (.ifCond .eq 14, 3) := by decide +kernel
theorem dL_law_602 : decode cL_law 602 = .ok (.aload_n 2, 1) := by decide +kernel
theorem dL_law_603 : decode cL_law 603 = .ok (.iconst 5, 1) := by decide +kernel
theorem dL_law_604 : decode cL_law 604 = .ok (.iaload, 1) := by decide +kernel
theorem dL_law_605 : decode cL_law 605 = .ok (.iconst 1, 1) := by decide +kernel
theorem dL_law_606 : decode cL_law 606 = .ok (.iload 15, 2) := by decide +kernel
theorem dL_law_608 : decode cL_law 608 = .ok (.ishl, 1) := by decide +kernel
theorem dL_law_609 : decode cL_law 609 = .ok (.ior, 1) := by decide +kernel
theorem dL_law_610 : decode cL_law 610 = .ok (.goto 13, 3) := by decide +kernel
theorem dL_law_613 : decode cL_law 613 = .ok (.aload_n 2, 1) := by decide +kernel
theorem dL_law_614 : decode cL_law 614 = .ok (.iconst 5, 1) := by decide +kernel
theorem dL_law_615 : decode cL_law 615 = .ok (.iaload, 1) := by decide +kernel
theorem dL_law_616 : decode cL_law 616 = .ok (.iconst 1, 1) := by decide +kernel
theorem dL_law_617 : decode cL_law 617 = .ok (.iload 15, 2) := by decide +kernel
theorem dL_law_619 : decode cL_law 619 = .ok (.ishl, 1) := by decide +kernel
theorem dL_law_620 : decode cL_law 620 = .ok (.iconst (-1), 1) := by decide +kernel
theorem dL_law_621 : decode cL_law 621 = .ok (.ixor, 1) := by decide +kernel
theorem dL_law_622 : decode cL_law 622 = .ok (.iand, 1) := by decide +kernel
theorem dL_law_623 : decode cL_law 623 = .ok (.iastore, 1) := by decide +kernel
theorem dL_law_624 : decode cL_law 624 = .ok (.iload 21, 2) := by decide +kernel
theorem dL_law_626 : decode cL_law 626 = .ok (.ifCond .ne 6, 3) := by decide +kernel
theorem dL_law_629 : decode cL_law 629 = .ok (.goto 2659, 3) := by decide +kernel
theorem dL_law_632 : decode cL_law 632 = .ok (.iconst 0, 1) := by decide +kernel
theorem dL_law_633 : decode cL_law 633 = .ok (.istore 22, 2) := by decide +kernel
theorem dL_law_635 : decode cL_law 635 = .ok (.iload 22, 2) := by decide +kernel
theorem dL_law_637 : decode cL_law 637 = .ok (.bipush 6, 2) := by decide +kernel
theorem dL_law_639 : decode cL_law 639 = .ok (.if_icmp .ge 21, 3) := by decide +kernel
theorem dL_law_642 : decode cL_law 642 = .ok (.aload 4, 2) := by decide +kernel
theorem dL_law_644 : decode cL_law 644 = .ok (.bipush 6, 2) := by decide +kernel
theorem dL_law_646 : decode cL_law 646 = .ok (.iload 15, 2) := by decide +kernel
theorem dL_law_648 : decode cL_law 648 = .ok (.imul, 1) := by decide +kernel
theorem dL_law_649 : decode cL_law 649 = .ok (.iload 22, 2) := by decide +kernel
theorem dL_law_651 : decode cL_law 651 = .ok (.iadd, 1) := by decide +kernel
theorem dL_law_652 : decode cL_law 652 = .ok (.iconst (-1), 1) := by decide +kernel
theorem dL_law_653 : decode cL_law 653 = .ok (.iastore, 1) := by decide +kernel
theorem dL_law_654 : decode cL_law 654 = .ok (.iinc 22 1, 3) := by decide +kernel
theorem dL_law_657 : decode cL_law 657 = .ok (.goto (-22), 3) := by decide +kernel
theorem dL_law_660 : decode cL_law 660 = .ok (.iconst 0, 1) := by decide +kernel
theorem dL_law_661 : decode cL_law 661 = .ok (.istore 22, 2) := by decide +kernel
theorem dL_law_663 : decode cL_law 663 = .ok (.iload 22, 2) := by decide +kernel
theorem dL_law_665 : decode cL_law 665 = .ok (.aload_n 2, 1) := by decide +kernel
theorem dL_law_666 : decode cL_law 666 = .ok (.iconst 1, 1) := by decide +kernel
theorem dL_law_667 : decode cL_law 667 = .ok (.iaload, 1) := by decide +kernel
theorem dL_law_668 : decode cL_law 668 = .ok (.if_icmp .ge 45, 3) := by decide +kernel
theorem dL_law_671 : decode cL_law 671 = .ok (.aload_n 3, 1) := by decide +kernel
theorem dL_law_672 : decode cL_law 672 = .ok (.bipush 8, 2) := by decide +kernel
theorem dL_law_674 : decode cL_law 674 = .ok (.iload 22, 2) := by decide +kernel
theorem dL_law_676 : decode cL_law 676 = .ok (.imul, 1) := by decide +kernel
theorem dL_law_677 : decode cL_law 677 = .ok (.iconst 3, 1) := by decide +kernel
theorem dL_law_678 : decode cL_law 678 = .ok (.iadd, 1) := by decide +kernel
theorem dL_law_679 : decode cL_law 679 = .ok (.aload_n 3, 1) := by decide +kernel
theorem dL_law_680 : decode cL_law 680 = .ok (.bipush 8, 2) := by decide +kernel
theorem dL_law_682 : decode cL_law 682 = .ok (.iload 22, 2) := by decide +kernel
theorem dL_law_684 : decode cL_law 684 = .ok (.imul, 1) := by decide +kernel
theorem dL_law_685 : decode cL_law 685 = .ok (.iconst 3, 1) := by decide +kernel
theorem dL_law_686 : decode cL_law 686 = .ok (.iadd, 1) := by decide +kernel
theorem dL_law_687 : decode cL_law 687 = .ok (.iaload, 1) := by decide +kernel
theorem dL_law_688 : decode cL_law 688 = .ok (.iload 15, 2) := by decide +kernel
theorem dL_law_690 : decode cL_law 690 = .ok (.if_icmp .ne 7, 3) := by decide +kernel
theorem dL_law_693 : decode cL_law 693 = .ok (.iconst (-1), 1) := by decide +kernel
theorem dL_law_694 : decode cL_law 694 = .ok (.goto 12, 3) := by decide +kernel
theorem dL_law_697 : decode cL_law 697 = .ok (.aload_n 3, 1) := by decide +kernel
theorem dL_law_698 : decode cL_law 698 = .ok (.bipush 8, 2) := by decide +kernel
theorem dL_law_700 : decode cL_law 700 = .ok (.iload 22, 2) := by decide +kernel
theorem dL_law_702 : decode cL_law 702 = .ok (.imul, 1) := by decide +kernel
theorem dL_law_703 : decode cL_law 703 = .ok (.iconst 3, 1) := by decide +kernel
theorem dL_law_704 : decode cL_law 704 = .ok (.iadd, 1) := by decide +kernel
theorem dL_law_705 : decode cL_law 705 = .ok (.iaload, 1) := by decide +kernel
theorem dL_law_706 : decode cL_law 706 = .ok (.iastore, 1) := by decide +kernel
theorem dL_law_707 : decode cL_law 707 = .ok (.iinc 22 1, 3) := by decide +kernel
theorem dL_law_710 : decode cL_law 710 = .ok (.goto (-47), 3) := by decide +kernel
theorem dL_law_713 : decode cL_law 713 = .ok (.goto 2575, 3) := by decide +kernel
theorem dL_law_716 : decode cL_law 716 = .ok (.aload_n 2, 1) := by decide +kernel
theorem dL_law_717 : decode cL_law 717 = .ok (.iconst 2, 1) := by decide +kernel
theorem dL_law_718 : decode cL_law 718 = .ok (.iaload, 1) := by decide +kernel
theorem dL_law_719 : decode cL_law 719 = .ok (.bipush 10, 2) := by decide +kernel
theorem dL_law_721 : decode cL_law 721 = .ok (.if_icmp .ne 6, 3) := by decide +kernel
theorem dL_law_724 : decode cL_law 724 = .ok (.goto 2564, 3) := by decide +kernel
theorem dL_law_727 : decode cL_law 727 = .ok (.iload 14, 2) := by decide +kernel
theorem dL_law_729 : decode cL_law 729 = .ok (.iconst 3, 1) := by decide +kernel
theorem dL_law_730 : decode cL_law 730 = .ok (.invokestatic 124, 3) := by decide +kernel
theorem dL_law_733 : decode cL_law 733 = .ok (.istore 22, 2) := by decide +kernel
theorem dL_law_735 : decode cL_law 735 = .ok (.bipush 6, 2) := by decide +kernel
theorem dL_law_737 : decode cL_law 737 = .ok (.aload_n 2, 1) := by decide +kernel
theorem dL_law_738 : decode cL_law 738 = .ok (.iconst 2, 1) := by decide +kernel
theorem dL_law_739 : decode cL_law 739 = .ok (.iaload, 1) := by decide +kernel
theorem dL_law_740 : decode cL_law 740 = .ok (.imul, 1) := by decide +kernel
theorem dL_law_741 : decode cL_law 741 = .ok (.istore 23, 2) := by decide +kernel
theorem dL_law_743 : decode cL_law 743 = .ok (.iload 14, 2) := by decide +kernel
theorem dL_law_745 : decode cL_law 745 = .ok (.ldc 149, 2) := by decide +kernel
theorem dL_law_747 : decode cL_law 747 = .ok (.iand, 1) := by decide +kernel
theorem dL_law_748 : decode cL_law 748 = .ok (.ifCond .ne 7, 3) := by decide +kernel
theorem dL_law_751 : decode cL_law 751 = .ok (.iconst 0, 1) := by decide +kernel
theorem dL_law_752 : decode cL_law 752 = .ok (.goto 19, 3) := by decide +kernel
theorem dL_law_755 : decode cL_law 755 = .ok (.aload_n 2, 1) := by decide +kernel
theorem dL_law_756 : decode cL_law 756 = .ok (.iconst 0, 1) := by decide +kernel
theorem dL_law_757 : decode cL_law 757 = .ok (.iaload, 1) := by decide +kernel
theorem dL_law_758 : decode cL_law 758 = .ok (.iconst 2, 1) := by decide +kernel
theorem dL_law_759 : decode cL_law 759 = .ok (.idiv, 1) := by decide +kernel
theorem dL_law_760 : decode cL_law 760 = .ok (.iload 14, 2) := by decide +kernel
theorem dL_law_762 : decode cL_law 762 = .ok (.iconst 4, 1) := by decide +kernel
theorem dL_law_763 : decode cL_law 763 = .ok (.ishr, 1) := by decide +kernel
theorem dL_law_764 : decode cL_law 764 = .ok (.sipush 500, 3) := by decide +kernel
theorem dL_law_767 : decode cL_law 767 = .ok (.invokestatic 124, 3) := by decide +kernel
theorem dL_law_770 : decode cL_law 770 = .ok (.iadd, 1) := by decide +kernel
theorem dL_law_771 : decode cL_law 771 = .ok (.istore 24, 2) := by decide +kernel
theorem dL_law_773 : decode cL_law 773 = .ok (.iload 24, 2) := by decide +kernel
theorem dL_law_775 : decode cL_law 775 = .ok (.iconst 1, 1) := by decide +kernel
theorem dL_law_776 : decode cL_law 776 = .ok (.iadd, 1) := by decide +kernel
theorem dL_law_777 : decode cL_law 777 = .ok (.iload 14, 2) := by decide +kernel
theorem dL_law_779 : decode cL_law 779 = .ok (.bipush 7, 2) := by decide +kernel
theorem dL_law_781 : decode cL_law 781 = .ok (.ishr, 1) := by decide +kernel
theorem dL_law_782 : decode cL_law 782 = .ok (.iload 14, 2) := by decide +kernel
theorem dL_law_784 : decode cL_law 784 = .ok (.ldc 150, 2) := by decide +kernel
theorem dL_law_786 : decode cL_law 786 = .ok (.iand, 1) := by decide +kernel
theorem dL_law_787 : decode cL_law 787 = .ok (.ifCond .ne 8, 3) := by decide +kernel
theorem dL_law_790 : decode cL_law 790 = .ok (.ldc 151, 2) := by decide +kernel
theorem dL_law_792 : decode cL_law 792 = .ok (.goto 6, 3) := by decide +kernel
theorem dL_law_795 : decode cL_law 795 = .ok (.sipush 3000, 3) := by decide +kernel
theorem dL_law_798 : decode cL_law 798 = .ok (.invokestatic 124, 3) := by decide +kernel
theorem dL_law_801 : decode cL_law 801 = .ok (.iadd, 1) := by decide +kernel
theorem dL_law_802 : decode cL_law 802 = .ok (.istore 25, 2) := by decide +kernel
theorem dL_law_804 : decode cL_law 804 = .ok (.iload 25, 2) := by decide +kernel
theorem dL_law_806 : decode cL_law 806 = .ok (.ldc 152, 2) := by decide +kernel
theorem dL_law_808 : decode cL_law 808 = .ok (.if_icmp .le 8, 3) := by decide +kernel
theorem dL_law_811 : decode cL_law 811 = .ok (.ldc 152, 2) := by decide +kernel
theorem dL_law_813 : decode cL_law 813 = .ok (.goto 5, 3) := by decide +kernel
theorem dL_law_816 : decode cL_law 816 = .ok (.iload 25, 2) := by decide +kernel
theorem dL_law_818 : decode cL_law 818 = .ok (.istore 25, 2) := by decide +kernel
theorem dL_law_820 : decode cL_law 820 = .ok (.iload 14, 2) := by decide +kernel
theorem dL_law_822 : decode cL_law 822 = .ok (.bipush 9, 2) := by decide +kernel
theorem dL_law_824 : decode cL_law 824 = .ok (.ishr, 1) := by decide +kernel
theorem dL_law_825 : decode cL_law 825 = .ok (.bipush 100, 2) := by decide +kernel
theorem dL_law_827 : decode cL_law 827 = .ok (.invokestatic 124, 3) := by decide +kernel
theorem dL_law_830 : decode cL_law 830 = .ok (.istore 26, 2) := by decide +kernel
theorem dL_law_832 : decode cL_law 832 = .ok (.iload 14, 2) := by decide +kernel
theorem dL_law_834 : decode cL_law 834 = .ok (.bipush 13, 2) := by decide +kernel
theorem dL_law_836 : decode cL_law 836 = .ok (.ishr, 1) := by decide +kernel
theorem dL_law_837 : decode cL_law 837 = .ok (.iconst 3, 1) := by decide +kernel
theorem dL_law_838 : decode cL_law 838 = .ok (.invokestatic 124, 3) := by decide +kernel
theorem dL_law_841 : decode cL_law 841 = .ok (.ifCond .ne 7, 3) := by decide +kernel
theorem dL_law_844 : decode cL_law 844 = .ok (.iconst 0, 1) := by decide +kernel
theorem dL_law_845 : decode cL_law 845 = .ok (.goto 13, 3) := by decide +kernel
theorem dL_law_848 : decode cL_law 848 = .ok (.iload 14, 2) := by decide +kernel
theorem dL_law_850 : decode cL_law 850 = .ok (.bipush 14, 2) := by decide +kernel
theorem dL_law_852 : decode cL_law 852 = .ok (.ishr, 1) := by decide +kernel
theorem dL_law_853 : decode cL_law 853 = .ok (.bipush 60, 2) := by decide +kernel
theorem dL_law_855 : decode cL_law 855 = .ok (.invokestatic 124, 3) := by decide +kernel
theorem dL_law_858 : decode cL_law 858 = .ok (.istore 27, 2) := by decide +kernel
theorem dL_law_860 : decode cL_law 860 = .ok (.iload 14, 2) := by decide +kernel
theorem dL_law_862 : decode cL_law 862 = .ok (.bipush 16, 2) := by decide +kernel
theorem dL_law_864 : decode cL_law 864 = .ok (.ishr, 1) := by decide +kernel
theorem dL_law_865 : decode cL_law 865 = .ok (.iload 26, 2) := by decide +kernel
theorem dL_law_867 : decode cL_law 867 = .ok (.iconst 1, 1) := by decide +kernel
theorem dL_law_868 : decode cL_law 868 = .ok (.iadd, 1) := by decide +kernel
theorem dL_law_869 : decode cL_law 869 = .ok (.invokestatic 124, 3) := by decide +kernel
theorem dL_law_872 : decode cL_law 872 = .ok (.istore 28, 2) := by decide +kernel
theorem dL_law_874 : decode cL_law 874 = .ok (.iload 22, 2) := by decide +kernel
theorem dL_law_876 : decode cL_law 876 = .ok (.iload 15, 2) := by decide +kernel
theorem dL_law_878 : decode cL_law 878 = .ok (.if_icmp .eq 7, 3) := by decide +kernel
theorem dL_law_881 : decode cL_law 881 = .ok (.iconst 1, 1) := by decide +kernel
theorem dL_law_882 : decode cL_law 882 = .ok (.goto 4, 3) := by decide +kernel
theorem dL_law_885 : decode cL_law 885 = .ok (.iconst 0, 1) := by decide +kernel
theorem dL_law_886 : decode cL_law 886 = .ok (.istore 29, 2) := by decide +kernel
theorem dL_law_888 : decode cL_law 888 = .ok (.aload_n 1, 1) := by decide +kernel
theorem dL_law_889 : decode cL_law 889 = .ok (.iload 22, 2) := by decide +kernel
theorem dL_law_891 : decode cL_law 891 = .ok (.iload 15, 2) := by decide +kernel
theorem dL_law_893 : decode cL_law 893 = .ok (.iload 24, 2) := by decide +kernel
theorem dL_law_895 : decode cL_law 895 = .ok (.iload 25, 2) := by decide +kernel
theorem dL_law_897 : decode cL_law 897 = .ok (.iload 26, 2) := by decide +kernel
theorem dL_law_899 : decode cL_law 899 = .ok (.iload 27, 2) := by decide +kernel
theorem dL_law_901 : decode cL_law 901 = .ok (.iload 28, 2) := by decide +kernel
theorem dL_law_903 : decode cL_law 903 = .ok (.invokestatic 153, 3) := by decide +kernel
theorem dL_law_906 : decode cL_law 906 = .ok (.iload 29, 2) := by decide +kernel
theorem dL_law_908 : decode cL_law 908 = .ok (.ifCond .eq 11, 3) := by decide +kernel
theorem dL_law_911 : decode cL_law 911 = .ok (.aload_n 2, 1) := by decide +kernel
theorem dL_law_912 : decode cL_law 912 = .ok (.iconst 2, 1) := by decide +kernel
theorem dL_law_913 : decode cL_law 913 = .ok (.iaload, 1) := by decide +kernel
theorem dL_law_914 : decode cL_law 914 = .ok (.iconst 1, 1) := by decide +kernel
theorem dL_law_915 : decode cL_law 915 = .ok (.iadd, 1) := by decide +kernel
theorem dL_law_916 : decode cL_law 916 = .ok (.goto 6, 3) := by decide +kernel
theorem dL_law_919 : decode cL_law 919 = .ok (.sipush (-7200), 3) := by decide +kernel
theorem dL_law_922 : decode cL_law 922 = .ok (.if_icmp .ne 7, 3) := by decide +kernel
theorem dL_law_925 : decode cL_law 925 = .ok (.iconst 1, 1) := by decide +kernel
theorem dL_law_926 : decode cL_law 926 = .ok (.goto 4, 3) := by decide +kernel
theorem dL_law_929 : decode cL_law 929 = .ok (.iconst 0, 1) := by decide +kernel
theorem dL_law_930 : decode cL_law 930 = .ok (.istore 18, 2) := by decide +kernel
theorem dL_law_932 : decode cL_law 932 = .ok (.iload 29, 2) := by decide +kernel
theorem dL_law_934 : decode cL_law 934 = .ok (.ifCond .ne 6, 3) := by decide +kernel
theorem dL_law_937 : decode cL_law 937 = .ok (.goto 2351, 3) := by decide +kernel
theorem dL_law_940 : decode cL_law 940 = .ok (.aload 5, 2) := by decide +kernel
theorem dL_law_942 : decode cL_law 942 = .ok (.iload 23, 2) := by decide +kernel
theorem dL_law_944 : decode cL_law 944 = .ok (.bipush 8, 2) := by decide +kernel
theorem dL_law_946 : decode cL_law 946 = .ok (.iload 22, 2) := by decide +kernel
theorem dL_law_948 : decode cL_law 948 = .ok (.imul, 1) := by decide +kernel
theorem dL_law_949 : decode cL_law 949 = .ok (.iload 15, 2) := by decide +kernel
theorem dL_law_951 : decode cL_law 951 = .ok (.iadd, 1) := by decide +kernel
theorem dL_law_952 : decode cL_law 952 = .ok (.iastore, 1) := by decide +kernel
theorem dL_law_953 : decode cL_law 953 = .ok (.aload 5, 2) := by decide +kernel
theorem dL_law_955 : decode cL_law 955 = .ok (.iload 23, 2) := by decide +kernel
theorem dL_law_957 : decode cL_law 957 = .ok (.iconst 1, 1) := by decide +kernel
theorem dL_law_958 : decode cL_law 958 = .ok (.iadd, 1) := by decide +kernel
theorem dL_law_959 : decode cL_law 959 = .ok (.iload 24, 2) := by decide +kernel
theorem dL_law_961 : decode cL_law 961 = .ok (.iastore, 1) := by decide +kernel
theorem dL_law_962 : decode cL_law 962 = .ok (.aload 5, 2) := by decide +kernel
theorem dL_law_964 : decode cL_law 964 = .ok (.iload 23, 2) := by decide +kernel
theorem dL_law_966 : decode cL_law 966 = .ok (.iconst 2, 1) := by decide +kernel
theorem dL_law_967 : decode cL_law 967 = .ok (.iadd, 1) := by decide +kernel
theorem dL_law_968 : decode cL_law 968 = .ok (.iload 25, 2) := by decide +kernel
theorem dL_law_970 : decode cL_law 970 = .ok (.iastore, 1) := by decide +kernel
theorem dL_law_971 : decode cL_law 971 = .ok (.aload 5, 2) := by decide +kernel
theorem dL_law_973 : decode cL_law 973 = .ok (.iload 23, 2) := by decide +kernel
theorem dL_law_975 : decode cL_law 975 = .ok (.iconst 3, 1) := by decide +kernel
theorem dL_law_976 : decode cL_law 976 = .ok (.iadd, 1) := by decide +kernel
theorem dL_law_977 : decode cL_law 977 = .ok (.iload 26, 2) := by decide +kernel
theorem dL_law_979 : decode cL_law 979 = .ok (.iastore, 1) := by decide +kernel
theorem dL_law_980 : decode cL_law 980 = .ok (.aload 5, 2) := by decide +kernel
theorem dL_law_982 : decode cL_law 982 = .ok (.iload 23, 2) := by decide +kernel
theorem dL_law_984 : decode cL_law 984 = .ok (.iconst 4, 1) := by decide +kernel
theorem dL_law_985 : decode cL_law 985 = .ok (.iadd, 1) := by decide +kernel
theorem dL_law_986 : decode cL_law 986 = .ok (.iload 27, 2) := by decide +kernel
theorem dL_law_988 : decode cL_law 988 = .ok (.iastore, 1) := by decide +kernel
theorem dL_law_989 : decode cL_law 989 = .ok (.aload 5, 2) := by decide +kernel
theorem dL_law_991 : decode cL_law 991 = .ok (.iload 23, 2) := by decide +kernel
theorem dL_law_993 : decode cL_law 993 = .ok (.iconst 5, 1) := by decide +kernel
theorem dL_law_994 : decode cL_law 994 = .ok (.iadd, 1) := by decide +kernel
theorem dL_law_995 : decode cL_law 995 = .ok (.iload 28, 2) := by decide +kernel
theorem dL_law_997 : decode cL_law 997 = .ok (.iastore, 1) := by decide +kernel
theorem dL_law_998 : decode cL_law 998 = .ok (.aload_n 2, 1) := by decide +kernel
theorem dL_law_999 : decode cL_law 999 = .ok (.iconst 2, 1) := by decide +kernel
theorem dL_law_1000 : decode cL_law 1000 = .ok (.dup2, 1) := by decide +kernel
theorem dL_law_1001 : decode cL_law 1001 = .ok (.iaload, 1) := by decide +kernel
theorem dL_law_1002 : decode cL_law 1002 = .ok (.iconst 1, 1) := by decide +kernel
theorem dL_law_1003 : decode cL_law 1003 = .ok (.iadd, 1) := by decide +kernel
theorem dL_law_1004 : decode cL_law 1004 = .ok (.iastore, 1) := by decide +kernel
theorem dL_law_1005 : decode cL_law 1005 = .ok (.goto 2283, 3) := by decide +kernel
theorem dL_law_1008 : decode cL_law 1008 = .ok (.iload 14, 2) := by decide +kernel
theorem dL_law_1010 : decode cL_law 1010 = .ok (.iconst 3, 1) := by decide +kernel
theorem dL_law_1011 : decode cL_law 1011 = .ok (.invokestatic 124, 3) := by decide +kernel
theorem dL_law_1014 : decode cL_law 1014 = .ok (.istore 30, 2) := by decide +kernel
theorem dL_law_1016 : decode cL_law 1016 = .ok (.iload 14, 2) := by decide +kernel
theorem dL_law_1018 : decode cL_law 1018 = .ok (.iconst 4, 1) := by decide +kernel
theorem dL_law_1019 : decode cL_law 1019 = .ok (.ishr, 1) := by decide +kernel
theorem dL_law_1020 : decode cL_law 1020 = .ok (.iconst 3, 1) := by decide +kernel
theorem dL_law_1021 : decode cL_law 1021 = .ok (.iand, 1) := by decide +kernel
theorem dL_law_1022 : decode cL_law 1022 = .ok (.ifCond .ne 7, 3) := by decide +kernel
theorem dL_law_1025 : decode cL_law 1025 = .ok (.iconst (-1), 1) := by decide +kernel
theorem dL_law_1026 : decode cL_law 1026 = .ok (.goto 5, 3) := by decide +kernel
theorem dL_law_1029 : decode cL_law 1029 = .ok (.iload 15, 2) := by decide +kernel
theorem dL_law_1031 : decode cL_law 1031 = .ok (.istore 31, 2) := by decide +kernel
theorem dL_law_1033 : decode cL_law 1033 = .ok (.aload_n 1, 1) := by decide +kernel
theorem dL_law_1034 : decode cL_law 1034 = .ok (.iload 30, 2) := by decide +kernel
theorem dL_law_1036 : decode cL_law 1036 = .ok (.iload 31, 2) := by decide +kernel
theorem dL_law_1038 : decode cL_law 1038 = .ok (.invokestatic 156, 3) := by decide +kernel
theorem dL_law_1041 : decode cL_law 1041 = .ok (.iload 31, 2) := by decide +kernel
theorem dL_law_1043 : decode cL_law 1043 = .ok (.iload 30, 2) := by decide +kernel
theorem dL_law_1045 : decode cL_law 1045 = .ok (.if_icmp .ne 9, 3) := by decide +kernel
theorem dL_law_1048 : decode cL_law 1048 = .ok (.sipush (-7200), 3) := by decide +kernel
theorem dL_law_1051 : decode cL_law 1051 = .ok (.goto 10, 3) := by decide +kernel
theorem dL_law_1054 : decode cL_law 1054 = .ok (.aload_n 2, 1) := by decide +kernel
theorem dL_law_1055 : decode cL_law 1055 = .ok (.bipush 6, 2) := by decide +kernel
theorem dL_law_1057 : decode cL_law 1057 = .ok (.iload 30, 2) := by decide +kernel
theorem dL_law_1059 : decode cL_law 1059 = .ok (.iadd, 1) := by decide +kernel
theorem dL_law_1060 : decode cL_law 1060 = .ok (.iaload, 1) := by decide +kernel
theorem dL_law_1061 : decode cL_law 1061 = .ok (.if_icmp .ne 7, 3) := by decide +kernel
theorem dL_law_1064 : decode cL_law 1064 = .ok (.iconst 1, 1) := by decide +kernel
theorem dL_law_1065 : decode cL_law 1065 = .ok (.goto 4, 3) := by decide +kernel
theorem dL_law_1068 : decode cL_law 1068 = .ok (.iconst 0, 1) := by decide +kernel
theorem dL_law_1069 : decode cL_law 1069 = .ok (.istore 18, 2) := by decide +kernel
theorem dL_law_1071 : decode cL_law 1071 = .ok (.aload_n 2, 1) := by decide +kernel
theorem dL_law_1072 : decode cL_law 1072 = .ok (.bipush 6, 2) := by decide +kernel
theorem dL_law_1074 : decode cL_law 1074 = .ok (.iload 30, 2) := by decide +kernel
theorem dL_law_1076 : decode cL_law 1076 = .ok (.iadd, 1) := by decide +kernel
theorem dL_law_1077 : decode cL_law 1077 = .ok (.iload 31, 2) := by decide +kernel
theorem dL_law_1079 : decode cL_law 1079 = .ok (.iload 30, 2) := by decide +kernel
theorem dL_law_1081 : decode cL_law 1081 = .ok (.if_icmp .ne 13, 3) := by decide +kernel
theorem dL_law_1084 : decode cL_law 1084 = .ok (.aload_n 2, 1) := by decide +kernel
theorem dL_law_1085 : decode cL_law 1085 = .ok (.bipush 6, 2) := by decide +kernel
theorem dL_law_1087 : decode cL_law 1087 = .ok (.iload 30, 2) := by decide +kernel
theorem dL_law_1089 : decode cL_law 1089 = .ok (.iadd, 1) := by decide +kernel
theorem dL_law_1090 : decode cL_law 1090 = .ok (.iaload, 1) := by decide +kernel
theorem dL_law_1091 : decode cL_law 1091 = .ok (.goto 5, 3) := by decide +kernel
theorem dL_law_1094 : decode cL_law 1094 = .ok (.iload 31, 2) := by decide +kernel
theorem dL_law_1096 : decode cL_law 1096 = .ok (.iastore, 1) := by decide +kernel
theorem dL_law_1097 : decode cL_law 1097 = .ok (.goto 2191, 3) := by decide +kernel
theorem dL_law_1100 : decode cL_law 1100 = .ok (.bipush 26, 2) := by decide +kernel
theorem dL_law_1102 : decode cL_law 1102 = .ok (.iconst 3, 1) := by decide +kernel
theorem dL_law_1103 : decode cL_law 1103 = .ok (.iload 14, 2) := by decide +kernel
theorem dL_law_1105 : decode cL_law 1105 = .ok (.iconst 3, 1) := by decide +kernel
theorem dL_law_1106 : decode cL_law 1106 = .ok (.invokestatic 124, 3) := by decide +kernel
theorem dL_law_1109 : decode cL_law 1109 = .ok (.imul, 1) := by decide +kernel
theorem dL_law_1110 : decode cL_law 1110 = .ok (.iadd, 1) := by decide +kernel
theorem dL_law_1111 : decode cL_law 1111 = .ok (.istore 32, 2) := by decide +kernel
theorem dL_law_1113 : decode cL_law 1113 = .ok (.iconst 0, 1) := by decide +kernel
theorem dL_law_1114 : decode cL_law 1114 = .ok (.istore 33, 2) := by decide +kernel
theorem dL_law_1116 : decode cL_law 1116 = .ok (.iload 33, 2) := by decide +kernel
theorem dL_law_1118 : decode cL_law 1118 = .ok (.iconst 3, 1) := by decide +kernel
theorem dL_law_1119 : decode cL_law 1119 = .ok (.if_icmp .ge 30, 3) := by decide +kernel
theorem dL_law_1122 : decode cL_law 1122 = .ok (.aload_n 2, 1) := by decide +kernel
theorem dL_law_1123 : decode cL_law 1123 = .ok (.iload 32, 2) := by decide +kernel
theorem dL_law_1125 : decode cL_law 1125 = .ok (.iload 33, 2) := by decide +kernel
theorem dL_law_1127 : decode cL_law 1127 = .ok (.iadd, 1) := by decide +kernel
theorem dL_law_1128 : decode cL_law 1128 = .ok (.iload 14, 2) := by decide +kernel
theorem dL_law_1130 : decode cL_law 1130 = .ok (.iconst 4, 1) := by decide +kernel
theorem dL_law_1131 : decode cL_law 1131 = .ok (.iconst 3, 1) := by decide +kernel
theorem dL_law_1132 : decode cL_law 1132 = .ok (.iload 33, 2) := by decide +kernel
theorem dL_law_1134 : decode cL_law 1134 = .ok (.imul, 1) := by decide +kernel
theorem dL_law_1135 : decode cL_law 1135 = .ok (.iadd, 1) := by decide +kernel
theorem dL_law_1136 : decode cL_law 1136 = .ok (.ishr, 1) := by decide +kernel
theorem dL_law_1137 : decode cL_law 1137 = .ok (.bipush 100, 2) := by decide +kernel
theorem dL_law_1139 : decode cL_law 1139 = .ok (.invokestatic 124, 3) := by decide +kernel
theorem dL_law_1142 : decode cL_law 1142 = .ok (.iastore, 1) := by decide +kernel
theorem dL_law_1143 : decode cL_law 1143 = .ok (.iinc 33 1, 3) := by decide +kernel
theorem dL_law_1146 : decode cL_law 1146 = .ok (.goto (-30), 3) := by decide +kernel
theorem dL_law_1149 : decode cL_law 1149 = .ok (.aload_n 1, 1) := by decide +kernel
theorem dL_law_1150 : decode cL_law 1150 = .ok (.iload 32, 2) := by decide +kernel
theorem dL_law_1152 : decode cL_law 1152 = .ok (.bipush 26, 2) := by decide +kernel
theorem dL_law_1154 : decode cL_law 1154 = .ok (.isub, 1) := by decide +kernel
theorem dL_law_1155 : decode cL_law 1155 = .ok (.iconst 3, 1) := by decide +kernel
theorem dL_law_1156 : decode cL_law 1156 = .ok (.idiv, 1) := by decide +kernel
theorem dL_law_1157 : decode cL_law 1157 = .ok (.aload_n 2, 1) := by decide +kernel
theorem dL_law_1158 : decode cL_law 1158 = .ok (.iload 32, 2) := by decide +kernel
theorem dL_law_1160 : decode cL_law 1160 = .ok (.iaload, 1) := by decide +kernel
theorem dL_law_1161 : decode cL_law 1161 = .ok (.aload_n 2, 1) := by decide +kernel
theorem dL_law_1162 : decode cL_law 1162 = .ok (.iload 32, 2) := by decide +kernel
theorem dL_law_1164 : decode cL_law 1164 = .ok (.iconst 1, 1) := by decide +kernel
theorem dL_law_1165 : decode cL_law 1165 = .ok (.iadd, 1) := by decide +kernel
theorem dL_law_1166 : decode cL_law 1166 = .ok (.iaload, 1) := by decide +kernel
theorem dL_law_1167 : decode cL_law 1167 = .ok (.aload_n 2, 1) := by decide +kernel
theorem dL_law_1168 : decode cL_law 1168 = .ok (.iload 32, 2) := by decide +kernel
theorem dL_law_1170 : decode cL_law 1170 = .ok (.iconst 2, 1) := by decide +kernel
theorem dL_law_1171 : decode cL_law 1171 = .ok (.iadd, 1) := by decide +kernel
theorem dL_law_1172 : decode cL_law 1172 = .ok (.iaload, 1) := by decide +kernel
theorem dL_law_1173 : decode cL_law 1173 = .ok (.invokestatic 158, 3) := by decide +kernel
theorem dL_law_1176 : decode cL_law 1176 = .ok (.ifCond .ne 7, 3) := by decide +kernel
theorem dL_law_1179 : decode cL_law 1179 = .ok (.iconst 1, 1) := by decide +kernel
theorem dL_law_1180 : decode cL_law 1180 = .ok (.goto 4, 3) := by decide +kernel
theorem dL_law_1183 : decode cL_law 1183 = .ok (.iconst 0, 1) := by decide +kernel
theorem dL_law_1184 : decode cL_law 1184 = .ok (.istore 18, 2) := by decide +kernel
theorem dL_law_1186 : decode cL_law 1186 = .ok (.goto 2102, 3) := by decide +kernel
theorem dL_law_1189 : decode cL_law 1189 = .ok (.iload 14, 2) := by decide +kernel
theorem dL_law_1191 : decode cL_law 1191 = .ok (.iconst 4, 1) := by decide +kernel
theorem dL_law_1192 : decode cL_law 1192 = .ok (.invokestatic 124, 3) := by decide +kernel
theorem dL_law_1195 : decode cL_law 1195 = .ok (.istore 33, 2) := by decide +kernel
theorem dL_law_1197 : decode cL_law 1197 = .ok (.aload_n 1, 1) := by decide +kernel
theorem dL_law_1198 : decode cL_law 1198 = .ok (.iload 15, 2) := by decide +kernel
theorem dL_law_1200 : decode cL_law 1200 = .ok (.iload 33, 2) := by decide +kernel
theorem dL_law_1202 : decode cL_law 1202 = .ok (.invokestatic 161, 3) := by decide +kernel
theorem dL_law_1205 : decode cL_law 1205 = .ok (.aload_n 2, 1) := by decide +kernel
theorem dL_law_1206 : decode cL_law 1206 = .ok (.bipush 12, 2) := by decide +kernel
theorem dL_law_1208 : decode cL_law 1208 = .ok (.iload 15, 2) := by decide +kernel
theorem dL_law_1210 : decode cL_law 1210 = .ok (.iadd, 1) := by decide +kernel
theorem dL_law_1211 : decode cL_law 1211 = .ok (.iaload, 1) := by decide +kernel
theorem dL_law_1212 : decode cL_law 1212 = .ok (.if_icmp .ne 7, 3) := by decide +kernel
theorem dL_law_1215 : decode cL_law 1215 = .ok (.iconst 1, 1) := by decide +kernel
theorem dL_law_1216 : decode cL_law 1216 = .ok (.goto 4, 3) := by decide +kernel
theorem dL_law_1219 : decode cL_law 1219 = .ok (.iconst 0, 1) := by decide +kernel
theorem dL_law_1220 : decode cL_law 1220 = .ok (.istore 18, 2) := by decide +kernel
theorem dL_law_1222 : decode cL_law 1222 = .ok (.aload_n 2, 1) := by decide +kernel
theorem dL_law_1223 : decode cL_law 1223 = .ok (.bipush 12, 2) := by decide +kernel
theorem dL_law_1225 : decode cL_law 1225 = .ok (.iload 15, 2) := by decide +kernel
theorem dL_law_1227 : decode cL_law 1227 = .ok (.iadd, 1) := by decide +kernel
theorem dL_law_1228 : decode cL_law 1228 = .ok (.iload 33, 2) := by decide +kernel
theorem dL_law_1230 : decode cL_law 1230 = .ok (.iastore, 1) := by decide +kernel
theorem dL_law_1231 : decode cL_law 1231 = .ok (.goto 2057, 3) := by decide +kernel
theorem dL_law_1234 : decode cL_law 1234 = .ok (.aload_n 2, 1) := by decide +kernel
theorem dL_law_1235 : decode cL_law 1235 = .ok (.iconst 1, 1) := by decide +kernel
theorem dL_law_1236 : decode cL_law 1236 = .ok (.iaload, 1) := by decide +kernel
theorem dL_law_1237 : decode cL_law 1237 = .ok (.bipush 6, 2) := by decide +kernel
theorem dL_law_1239 : decode cL_law 1239 = .ok (.if_icmp .ne 6, 3) := by decide +kernel
theorem dL_law_1242 : decode cL_law 1242 = .ok (.goto 2046, 3) := by decide +kernel
theorem dL_law_1245 : decode cL_law 1245 = .ok (.bipush 8, 2) := by decide +kernel
theorem dL_law_1247 : decode cL_law 1247 = .ok (.aload_n 2, 1) := by decide +kernel
theorem dL_law_1248 : decode cL_law 1248 = .ok (.iconst 1, 1) := by decide +kernel
theorem dL_law_1249 : decode cL_law 1249 = .ok (.iaload, 1) := by decide +kernel
theorem dL_law_1250 : decode cL_law 1250 = .ok (.imul, 1) := by decide +kernel
theorem dL_law_1251 : decode cL_law 1251 = .ok (.istore 34, 2) := by decide +kernel
theorem dL_law_1253 : decode cL_law 1253 = .ok (.aload_n 3, 1) := by decide +kernel
theorem dL_law_1254 : decode cL_law 1254 = .ok (.iload 34, 2) := by decide +kernel
theorem dL_law_1256 : decode cL_law 1256 = .ok (.iload 14, 2) := by decide +kernel
theorem dL_law_1258 : decode cL_law 1258 = .ok (.iconst 3, 1) := by decide +kernel
theorem dL_law_1259 : decode cL_law 1259 = .ok (.invokestatic 124, 3) := by decide +kernel
theorem dL_law_1262 : decode cL_law 1262 = .ok (.iastore, 1) := by decide +kernel
theorem dL_law_1263 : decode cL_law 1263 = .ok (.aload_n 3, 1) := by decide +kernel
theorem dL_law_1264 : decode cL_law 1264 = .ok (.iload 34, 2) := by decide +kernel
theorem dL_law_1266 : decode cL_law 1266 = .ok (.iconst 1, 1) := by decide +kernel
theorem dL_law_1267 : decode cL_law 1267 = .ok (.iadd, 1) := by decide +kernel
theorem dL_law_1268 : decode cL_law 1268 = .ok (.iload 14, 2) := by decide +kernel
theorem dL_law_1270 : decode cL_law 1270 = .ok (.iconst 3, 1) := by decide +kernel
theorem dL_law_1271 : decode cL_law 1271 = .ok (.ishr, 1) := by decide +kernel
theorem dL_law_1272 : decode cL_law 1272 = .ok (.iconst 4, 1) := by decide +kernel
theorem dL_law_1273 : decode cL_law 1273 = .ok (.invokestatic 124, 3) := by decide +kernel
theorem dL_law_1276 : decode cL_law 1276 = .ok (.iastore, 1) := by decide +kernel
theorem dL_law_1277 : decode cL_law 1277 = .ok (.aload_n 3, 1) := by decide +kernel
theorem dL_law_1278 : decode cL_law 1278 = .ok (.iload 34, 2) := by decide +kernel
theorem dL_law_1280 : decode cL_law 1280 = .ok (.iconst 2, 1) := by decide +kernel
theorem dL_law_1281 : decode cL_law 1281 = .ok (.iadd, 1) := by decide +kernel
theorem dL_law_1282 : decode cL_law 1282 = .ok (.iload 14, 2) := by decide +kernel
theorem dL_law_1284 : decode cL_law 1284 = .ok (.bipush 96, 2) := by decide +kernel
theorem dL_law_1286 : decode cL_law 1286 = .ok (.iand, 1) := by decide +kernel
theorem dL_law_1287 : decode cL_law 1287 = .ok (.ifCond .ne 16, 3) := by decide +kernel
theorem dL_law_1290 : decode cL_law 1290 = .ok (.iload 14, 2) := by decide +kernel
theorem dL_law_1292 : decode cL_law 1292 = .ok (.bipush 8, 2) := by decide +kernel
theorem dL_law_1294 : decode cL_law 1294 = .ok (.ishr, 1) := by decide +kernel
theorem dL_law_1295 : decode cL_law 1295 = .ok (.bipush 64, 2) := by decide +kernel
theorem dL_law_1297 : decode cL_law 1297 = .ok (.invokestatic 124, 3) := by decide +kernel
theorem dL_law_1300 : decode cL_law 1300 = .ok (.goto 4, 3) := by decide +kernel
theorem dL_law_1303 : decode cL_law 1303 = .ok (.iconst 0, 1) := by decide +kernel
theorem dL_law_1304 : decode cL_law 1304 = .ok (.iastore, 1) := by decide +kernel
theorem dL_law_1305 : decode cL_law 1305 = .ok (.aload_n 3, 1) := by decide +kernel
theorem dL_law_1306 : decode cL_law 1306 = .ok (.iload 34, 2) := by decide +kernel
theorem dL_law_1308 : decode cL_law 1308 = .ok (.iconst 3, 1) := by decide +kernel
theorem dL_law_1309 : decode cL_law 1309 = .ok (.iadd, 1) := by decide +kernel
theorem dL_law_1310 : decode cL_law 1310 = .ok (.iconst (-1), 1) := by decide +kernel
theorem dL_law_1311 : decode cL_law 1311 = .ok (.iastore, 1) := by decide +kernel
theorem dL_law_1312 : decode cL_law 1312 = .ok (.aload_n 3, 1) := by decide +kernel
theorem dL_law_1313 : decode cL_law 1313 = .ok (.iload 34, 2) := by decide +kernel
theorem dL_law_1315 : decode cL_law 1315 = .ok (.iconst 5, 1) := by decide +kernel
theorem dL_law_1316 : decode cL_law 1316 = .ok (.iadd, 1) := by decide +kernel
theorem dL_law_1317 : decode cL_law 1317 = .ok (.iconst (-1), 1) := by decide +kernel
theorem dL_law_1318 : decode cL_law 1318 = .ok (.iastore, 1) := by decide +kernel
theorem dL_law_1319 : decode cL_law 1319 = .ok (.aload_n 3, 1) := by decide +kernel
theorem dL_law_1320 : decode cL_law 1320 = .ok (.iload 34, 2) := by decide +kernel
theorem dL_law_1322 : decode cL_law 1322 = .ok (.bipush 6, 2) := by decide +kernel
theorem dL_law_1324 : decode cL_law 1324 = .ok (.iadd, 1) := by decide +kernel
theorem dL_law_1325 : decode cL_law 1325 = .ok (.sipush 5000, 3) := by decide +kernel
theorem dL_law_1328 : decode cL_law 1328 = .ok (.iastore, 1) := by decide +kernel
theorem dL_law_1329 : decode cL_law 1329 = .ok (.aload_n 1, 1) := by decide +kernel
theorem dL_law_1330 : decode cL_law 1330 = .ok (.aload_n 3, 1) := by decide +kernel
theorem dL_law_1331 : decode cL_law 1331 = .ok (.iload 34, 2) := by decide +kernel
theorem dL_law_1333 : decode cL_law 1333 = .ok (.iaload, 1) := by decide +kernel
theorem dL_law_1334 : decode cL_law 1334 = .ok (.aload_n 3, 1) := by decide +kernel
theorem dL_law_1335 : decode cL_law 1335 = .ok (.iload 34, 2) := by decide +kernel
theorem dL_law_1337 : decode cL_law 1337 = .ok (.iconst 1, 1) := by decide +kernel
theorem dL_law_1338 : decode cL_law 1338 = .ok (.iadd, 1) := by decide +kernel
theorem dL_law_1339 : decode cL_law 1339 = .ok (.iaload, 1) := by decide +kernel
theorem dL_law_1340 : decode cL_law 1340 = .ok (.aload_n 3, 1) := by decide +kernel
theorem dL_law_1341 : decode cL_law 1341 = .ok (.iload 34, 2) := by decide +kernel
theorem dL_law_1343 : decode cL_law 1343 = .ok (.iconst 2, 1) := by decide +kernel
theorem dL_law_1344 : decode cL_law 1344 = .ok (.iadd, 1) := by decide +kernel
theorem dL_law_1345 : decode cL_law 1345 = .ok (.iaload, 1) := by decide +kernel
theorem dL_law_1346 : decode cL_law 1346 = .ok (.invokestatic 163, 3) := by decide +kernel
theorem dL_law_1349 : decode cL_law 1349 = .ok (.aload_n 2, 1) := by decide +kernel
theorem dL_law_1350 : decode cL_law 1350 = .ok (.iconst 1, 1) := by decide +kernel
theorem dL_law_1351 : decode cL_law 1351 = .ok (.iaload, 1) := by decide +kernel
theorem dL_law_1352 : decode cL_law 1352 = .ok (.if_icmp .ne 7, 3) := by decide +kernel
theorem dL_law_1355 : decode cL_law 1355 = .ok (.iconst 1, 1) := by decide +kernel
theorem dL_law_1356 : decode cL_law 1356 = .ok (.goto 4, 3) := by decide +kernel
theorem dL_law_1359 : decode cL_law 1359 = .ok (.iconst 0, 1) := by decide +kernel
theorem dL_law_1360 : decode cL_law 1360 = .ok (.istore 18, 2) := by decide +kernel
theorem dL_law_1362 : decode cL_law 1362 = .ok (.aload_n 2, 1) := by decide +kernel
theorem dL_law_1363 : decode cL_law 1363 = .ok (.iconst 1, 1) := by decide +kernel
theorem dL_law_1364 : decode cL_law 1364 = .ok (.dup2, 1) := by decide +kernel
theorem dL_law_1365 : decode cL_law 1365 = .ok (.iaload, 1) := by decide +kernel
theorem dL_law_1366 : decode cL_law 1366 = .ok (.iconst 1, 1) := by decide +kernel
theorem dL_law_1367 : decode cL_law 1367 = .ok (.iadd, 1) := by decide +kernel
theorem dL_law_1368 : decode cL_law 1368 = .ok (.iastore, 1) := by decide +kernel
theorem dL_law_1369 : decode cL_law 1369 = .ok (.goto 1919, 3) := by decide +kernel
theorem dL_law_1372 : decode cL_law 1372 = .ok (.aload_n 2, 1) := by decide +kernel
theorem dL_law_1373 : decode cL_law 1373 = .ok (.iconst 1, 1) := by decide +kernel
theorem dL_law_1374 : decode cL_law 1374 = .ok (.iaload, 1) := by decide +kernel
theorem dL_law_1375 : decode cL_law 1375 = .ok (.ifCond .ne 6, 3) := by decide +kernel
theorem dL_law_1378 : decode cL_law 1378 = .ok (.goto 1910, 3) := by decide +kernel
theorem dL_law_1381 : decode cL_law 1381 = .ok (.aload_n 3, 1) := by decide +kernel
theorem dL_law_1382 : decode cL_law 1382 = .ok (.bipush 8, 2) := by decide +kernel
theorem dL_law_1384 : decode cL_law 1384 = .ok (.iload 16, 2) := by decide +kernel
theorem dL_law_1386 : decode cL_law 1386 = .ok (.imul, 1) := by decide +kernel
theorem dL_law_1387 : decode cL_law 1387 = .ok (.iconst 1, 1) := by decide +kernel
theorem dL_law_1388 : decode cL_law 1388 = .ok (.iadd, 1) := by decide +kernel
theorem dL_law_1389 : decode cL_law 1389 = .ok (.iload 14, 2) := by decide +kernel
theorem dL_law_1391 : decode cL_law 1391 = .ok (.iconst 4, 1) := by decide +kernel
theorem dL_law_1392 : decode cL_law 1392 = .ok (.invokestatic 124, 3) := by decide +kernel
theorem dL_law_1395 : decode cL_law 1395 = .ok (.iastore, 1) := by decide +kernel
theorem dL_law_1396 : decode cL_law 1396 = .ok (.aload_n 3, 1) := by decide +kernel
theorem dL_law_1397 : decode cL_law 1397 = .ok (.bipush 8, 2) := by decide +kernel
theorem dL_law_1399 : decode cL_law 1399 = .ok (.iload 16, 2) := by decide +kernel
theorem dL_law_1401 : decode cL_law 1401 = .ok (.imul, 1) := by decide +kernel
theorem dL_law_1402 : decode cL_law 1402 = .ok (.iconst 4, 1) := by decide +kernel
theorem dL_law_1403 : decode cL_law 1403 = .ok (.iadd, 1) := by decide +kernel
theorem dL_law_1404 : decode cL_law 1404 = .ok (.iconst 0, 1) := by decide +kernel
theorem dL_law_1405 : decode cL_law 1405 = .ok (.iastore, 1) := by decide +kernel
theorem dL_law_1406 : decode cL_law 1406 = .ok (.aload_n 3, 1) := by decide +kernel
theorem dL_law_1407 : decode cL_law 1407 = .ok (.bipush 8, 2) := by decide +kernel
theorem dL_law_1409 : decode cL_law 1409 = .ok (.iload 16, 2) := by decide +kernel
theorem dL_law_1411 : decode cL_law 1411 = .ok (.imul, 1) := by decide +kernel
theorem dL_law_1412 : decode cL_law 1412 = .ok (.iconst 3, 1) := by decide +kernel
theorem dL_law_1413 : decode cL_law 1413 = .ok (.iadd, 1) := by decide +kernel
theorem dL_law_1414 : decode cL_law 1414 = .ok (.iaload, 1) := by decide +kernel
theorem dL_law_1415 : decode cL_law 1415 = .ok (.iconst (-1), 1) := by decide +kernel
theorem dL_law_1416 : decode cL_law 1416 = .ok (.if_icmp .eq 42, 3) := by decide +kernel
theorem dL_law_1419 : decode cL_law 1419 = .ok (.aload_n 2, 1) := by decide +kernel
theorem dL_law_1420 : decode cL_law 1420 = .ok (.bipush 18, 2) := by decide +kernel
theorem dL_law_1422 : decode cL_law 1422 = .ok (.aload_n 3, 1) := by decide +kernel
theorem dL_law_1423 : decode cL_law 1423 = .ok (.bipush 8, 2) := by decide +kernel
theorem dL_law_1425 : decode cL_law 1425 = .ok (.iload 16, 2) := by decide +kernel
theorem dL_law_1427 : decode cL_law 1427 = .ok (.imul, 1) := by decide +kernel
theorem dL_law_1428 : decode cL_law 1428 = .ok (.iconst 1, 1) := by decide +kernel
theorem dL_law_1429 : decode cL_law 1429 = .ok (.iadd, 1) := by decide +kernel
theorem dL_law_1430 : decode cL_law 1430 = .ok (.iaload, 1) := by decide +kernel
theorem dL_law_1431 : decode cL_law 1431 = .ok (.iadd, 1) := by decide +kernel
theorem dL_law_1432 : decode cL_law 1432 = .ok (.iaload, 1) := by decide +kernel
theorem dL_law_1433 : decode cL_law 1433 = .ok (.aload_n 3, 1) := by decide +kernel
theorem dL_law_1434 : decode cL_law 1434 = .ok (.bipush 8, 2) := by decide +kernel
theorem dL_law_1436 : decode cL_law 1436 = .ok (.iload 16, 2) := by decide +kernel
theorem dL_law_1438 : decode cL_law 1438 = .ok (.imul, 1) := by decide +kernel
theorem dL_law_1439 : decode cL_law 1439 = .ok (.iconst 3, 1) := by decide +kernel
theorem dL_law_1440 : decode cL_law 1440 = .ok (.iadd, 1) := by decide +kernel
theorem dL_law_1441 : decode cL_law 1441 = .ok (.iaload, 1) := by decide +kernel
theorem dL_law_1442 : decode cL_law 1442 = .ok (.ishr, 1) := by decide +kernel
theorem dL_law_1443 : decode cL_law 1443 = .ok (.iconst 1, 1) := by decide +kernel
theorem dL_law_1444 : decode cL_law 1444 = .ok (.iand, 1) := by decide +kernel
theorem dL_law_1445 : decode cL_law 1445 = .ok (.ifCond .ne 13, 3) := by decide +kernel
theorem dL_law_1448 : decode cL_law 1448 = .ok (.aload_n 3, 1) := by decide +kernel
theorem dL_law_1449 : decode cL_law 1449 = .ok (.bipush 8, 2) := by decide +kernel
theorem dL_law_1451 : decode cL_law 1451 = .ok (.iload 16, 2) := by decide +kernel
theorem dL_law_1453 : decode cL_law 1453 = .ok (.imul, 1) := by decide +kernel
theorem dL_law_1454 : decode cL_law 1454 = .ok (.iconst 3, 1) := by decide +kernel
theorem dL_law_1455 : decode cL_law 1455 = .ok (.iadd, 1) := by decide +kernel
theorem dL_law_1456 : decode cL_law 1456 = .ok (.iconst (-1), 1) := by decide +kernel
theorem dL_law_1457 : decode cL_law 1457 = .ok (.iastore, 1) := by decide +kernel
theorem dL_law_1458 : decode cL_law 1458 = .ok (.aload_n 1, 1) := by decide +kernel
theorem dL_law_1459 : decode cL_law 1459 = .ok (.iload 16, 2) := by decide +kernel
theorem dL_law_1461 : decode cL_law 1461 = .ok (.aload_n 3, 1) := by decide +kernel
theorem dL_law_1462 : decode cL_law 1462 = .ok (.bipush 8, 2) := by decide +kernel
theorem dL_law_1464 : decode cL_law 1464 = .ok (.iload 16, 2) := by decide +kernel
theorem dL_law_1466 : decode cL_law 1466 = .ok (.imul, 1) := by decide +kernel
theorem dL_law_1467 : decode cL_law 1467 = .ok (.iconst 1, 1) := by decide +kernel
theorem dL_law_1468 : decode cL_law 1468 = .ok (.iadd, 1) := by decide +kernel
theorem dL_law_1469 : decode cL_law 1469 = .ok (.iaload, 1) := by decide +kernel
theorem dL_law_1470 : decode cL_law 1470 = .ok (.invokestatic 165, 3) := by decide +kernel
theorem dL_law_1473 : decode cL_law 1473 = .ok (.aload_n 3, 1) := by decide +kernel
theorem dL_law_1474 : decode cL_law 1474 = .ok (.bipush 8, 2) := by decide +kernel
theorem dL_law_1476 : decode cL_law 1476 = .ok (.iload 16, 2) := by decide +kernel
theorem dL_law_1478 : decode cL_law 1478 = .ok (.imul, 1) := by decide +kernel
theorem dL_law_1479 : decode cL_law 1479 = .ok (.iconst 3, 1) := by decide +kernel
theorem dL_law_1480 : decode cL_law 1480 = .ok (.iadd, 1) := by decide +kernel
theorem dL_law_1481 : decode cL_law 1481 = .ok (.iaload, 1) := by decide +kernel
theorem dL_law_1482 : decode cL_law 1482 = .ok (.if_icmp .ne 7, 3) := by decide +kernel
theorem dL_law_1485 : decode cL_law 1485 = .ok (.iconst 1, 1) := by decide +kernel
theorem dL_law_1486 : decode cL_law 1486 = .ok (.goto 4, 3) := by decide +kernel
theorem dL_law_1489 : decode cL_law 1489 = .ok (.iconst 0, 1) := by decide +kernel
theorem dL_law_1490 : decode cL_law 1490 = .ok (.istore 18, 2) := by decide +kernel
theorem dL_law_1492 : decode cL_law 1492 = .ok (.goto 1796, 3) := by decide +kernel
theorem dL_law_1495 : decode cL_law 1495 = .ok (.aload_n 2, 1) := by decide +kernel
theorem dL_law_1496 : decode cL_law 1496 = .ok (.iconst 1, 1) := by decide +kernel
theorem dL_law_1497 : decode cL_law 1497 = .ok (.iaload, 1) := by decide +kernel
theorem dL_law_1498 : decode cL_law 1498 = .ok (.ifCond .eq 1790, 3) := by decide +kernel
theorem dL_law_1501 : decode cL_law 1501 = .ok (.iload 14, 2) := by decide +kernel
theorem dL_law_1503 : decode cL_law 1503 = .ok (.bipush 6, 2) := by decide +kernel
theorem dL_law_1505 : decode cL_law 1505 = .ok (.iand, 1) := by decide +kernel
theorem dL_law_1506 : decode cL_law 1506 = .ok (.ifCond .le 6, 3) := by decide +kernel
theorem dL_law_1509 : decode cL_law 1509 = .ok (.goto 1779, 3) := by decide +kernel
theorem dL_law_1512 : decode cL_law 1512 = .ok (.aload_n 1, 1) := by decide +kernel
theorem dL_law_1513 : decode cL_law 1513 = .ok (.iload 16, 2) := by decide +kernel
theorem dL_law_1515 : decode cL_law 1515 = .ok (.invokestatic 167, 3) := by decide +kernel
theorem dL_law_1518 : decode cL_law 1518 = .ok (.aload_n 3, 1) := by decide +kernel
theorem dL_law_1519 : decode cL_law 1519 = .ok (.bipush 8, 2) := by decide +kernel
theorem dL_law_1521 : decode cL_law 1521 = .ok (.iload 16, 2) := by decide +kernel
theorem dL_law_1523 : decode cL_law 1523 = .ok (.imul, 1) := by decide +kernel
theorem dL_law_1524 : decode cL_law 1524 = .ok (.iconst 3, 1) := by decide +kernel
theorem dL_law_1525 : decode cL_law 1525 = .ok (.iadd, 1) := by decide +kernel
theorem dL_law_1526 : decode cL_law 1526 = .ok (.iaload, 1) := by decide +kernel
theorem dL_law_1527 : decode cL_law 1527 = .ok (.if_icmp .ne 7, 3) := by decide +kernel
theorem dL_law_1530 : decode cL_law 1530 = .ok (.iconst 1, 1) := by decide +kernel
theorem dL_law_1531 : decode cL_law 1531 = .ok (.goto 4, 3) := by decide +kernel
theorem dL_law_1534 : decode cL_law 1534 = .ok (.iconst 0, 1) := by decide +kernel
theorem dL_law_1535 : decode cL_law 1535 = .ok (.istore 18, 2) := by decide +kernel
theorem dL_law_1537 : decode cL_law 1537 = .ok (.aload_n 3, 1) := by decide +kernel
theorem dL_law_1538 : decode cL_law 1538 = .ok (.bipush 8, 2) := by decide +kernel
theorem dL_law_1540 : decode cL_law 1540 = .ok (.iload 16, 2) := by decide +kernel
theorem dL_law_1542 : decode cL_law 1542 = .ok (.imul, 1) := by decide +kernel
theorem dL_law_1543 : decode cL_law 1543 = .ok (.iconst 3, 1) := by decide +kernel
theorem dL_law_1544 : decode cL_law 1544 = .ok (.iadd, 1) := by decide +kernel
theorem dL_law_1545 : decode cL_law 1545 = .ok (.iconst (-1), 1) := by decide +kernel
theorem dL_law_1546 : decode cL_law 1546 = .ok (.iastore, 1) := by decide +kernel
theorem dL_law_1547 : decode cL_law 1547 = .ok (.goto 1741, 3) := by decide +kernel
theorem dL_law_1550 : decode cL_law 1550 = .ok (.iconst 0, 1) := by decide +kernel
theorem dL_law_1551 : decode cL_law 1551 = .ok (.istore 35, 2) := by decide +kernel
theorem dL_law_1553 : decode cL_law 1553 = .ok (.iconst 0, 1) := by decide +kernel
theorem dL_law_1554 : decode cL_law 1554 = .ok (.istore 36, 2) := by decide +kernel
theorem dL_law_1556 : decode cL_law 1556 = .ok (.iload 36, 2) := by decide +kernel
theorem dL_law_1558 : decode cL_law 1558 = .ok (.bipush 6, 2) := by decide +kernel
theorem dL_law_1560 : decode cL_law 1560 = .ok (.if_icmp .ge 34, 3) := by decide +kernel
theorem dL_law_1563 : decode cL_law 1563 = .ok (.iload 35, 2) := by decide +kernel
theorem dL_law_1565 : decode cL_law 1565 = .ok (.aload 4, 2) := by decide +kernel
theorem dL_law_1567 : decode cL_law 1567 = .ok (.bipush 6, 2) := by decide +kernel
theorem dL_law_1569 : decode cL_law 1569 = .ok (.iload 15, 2) := by decide +kernel
theorem dL_law_1571 : decode cL_law 1571 = .ok (.imul, 1) := by decide +kernel
theorem dL_law_1572 : decode cL_law 1572 = .ok (.iload 36, 2) := by decide +kernel
theorem dL_law_1574 : decode cL_law 1574 = .ok (.iadd, 1) := by decide +kernel
theorem dL_law_1575 : decode cL_law 1575 = .ok (.iaload, 1) := by decide +kernel
theorem dL_law_1576 : decode cL_law 1576 = .ok (.iconst (-1), 1) := by decide +kernel
theorem dL_law_1577 : decode cL_law 1577 = .ok (.if_icmp .ne 7, 3) := by decide +kernel
theorem dL_law_1580 : decode cL_law 1580 = .ok (.iconst 0, 1) := by decide +kernel
theorem dL_law_1581 : decode cL_law 1581 = .ok (.goto 4, 3) := by decide +kernel
theorem dL_law_1584 : decode cL_law 1584 = .ok (.iconst 1, 1) := by decide +kernel
theorem dL_law_1585 : decode cL_law 1585 = .ok (.iadd, 1) := by decide +kernel
theorem dL_law_1586 : decode cL_law 1586 = .ok (.istore 35, 2) := by decide +kernel
theorem dL_law_1588 : decode cL_law 1588 = .ok (.iinc 36 1, 3) := by decide +kernel
theorem dL_law_1591 : decode cL_law 1591 = .ok (.goto (-35), 3) := by decide +kernel
theorem dL_law_1594 : decode cL_law 1594 = .ok (.aload_n 1, 1) := by decide +kernel
theorem dL_law_1595 : decode cL_law 1595 = .ok (.iload 15, 2) := by decide +kernel
theorem dL_law_1597 : decode cL_law 1597 = .ok (.invokestatic 169, 3) := by decide +kernel
theorem dL_law_1600 : decode cL_law 1600 = .ok (.iload 35, 2) := by decide +kernel
theorem dL_law_1602 : decode cL_law 1602 = .ok (.if_icmp .ne 7, 3) := by decide +kernel
theorem dL_law_1605 : decode cL_law 1605 = .ok (.iconst 1, 1) := by decide +kernel
theorem dL_law_1606 : decode cL_law 1606 = .ok (.goto 4, 3) := by decide +kernel
theorem dL_law_1609 : decode cL_law 1609 = .ok (.iconst 0, 1) := by decide +kernel
theorem dL_law_1610 : decode cL_law 1610 = .ok (.istore 18, 2) := by decide +kernel
theorem dL_law_1612 : decode cL_law 1612 = .ok (.iconst 0, 1) := by decide +kernel
theorem dL_law_1613 : decode cL_law 1613 = .ok (.istore 36, 2) := by decide +kernel
theorem dL_law_1615 : decode cL_law 1615 = .ok (.iload 36, 2) := by decide +kernel
theorem dL_law_1617 : decode cL_law 1617 = .ok (.bipush 6, 2) := by decide +kernel
theorem dL_law_1619 : decode cL_law 1619 = .ok (.if_icmp .ge 21, 3) := by decide +kernel
theorem dL_law_1622 : decode cL_law 1622 = .ok (.aload 4, 2) := by decide +kernel
theorem dL_law_1624 : decode cL_law 1624 = .ok (.bipush 6, 2) := by decide +kernel
theorem dL_law_1626 : decode cL_law 1626 = .ok (.iload 15, 2) := by decide +kernel
theorem dL_law_1628 : decode cL_law 1628 = .ok (.imul, 1) := by decide +kernel
theorem dL_law_1629 : decode cL_law 1629 = .ok (.iload 36, 2) := by decide +kernel
theorem dL_law_1631 : decode cL_law 1631 = .ok (.iadd, 1) := by decide +kernel
theorem dL_law_1632 : decode cL_law 1632 = .ok (.iconst (-1), 1) := by decide +kernel
theorem dL_law_1633 : decode cL_law 1633 = .ok (.iastore, 1) := by decide +kernel
theorem dL_law_1634 : decode cL_law 1634 = .ok (.iinc 36 1, 3) := by decide +kernel
theorem dL_law_1637 : decode cL_law 1637 = .ok (.goto (-22), 3) := by decide +kernel
theorem dL_law_1640 : decode cL_law 1640 = .ok (.goto 1648, 3) := by decide +kernel
theorem dL_law_1643 : decode cL_law 1643 = .ok (.aload_n 2, 1) := by decide +kernel
theorem dL_law_1644 : decode cL_law 1644 = .ok (.iconst 1, 1) := by decide +kernel
theorem dL_law_1645 : decode cL_law 1645 = .ok (.iaload, 1) := by decide +kernel
theorem dL_law_1646 : decode cL_law 1646 = .ok (.ifCond .ne 6, 3) := by decide +kernel
theorem dL_law_1649 : decode cL_law 1649 = .ok (.goto 1639, 3) := by decide +kernel
theorem dL_law_1652 : decode cL_law 1652 = .ok (.iconst 0, 1) := by decide +kernel
theorem dL_law_1653 : decode cL_law 1653 = .ok (.istore 36, 2) := by decide +kernel
theorem dL_law_1655 : decode cL_law 1655 = .ok (.iload 36, 2) := by decide +kernel
theorem dL_law_1657 : decode cL_law 1657 = .ok (.iconst 4, 1) := by decide +kernel
theorem dL_law_1658 : decode cL_law 1658 = .ok (.if_icmp .ge 236, 3) := by decide +kernel
theorem dL_law_1661 : decode cL_law 1661 = .ok (.iload 15, 2) := by decide +kernel
theorem dL_law_1663 : decode cL_law 1663 = .ok (.iload 36, 2) := by decide +kernel
theorem dL_law_1665 : decode cL_law 1665 = .ok (.iadd, 1) := by decide +kernel
theorem dL_law_1666 : decode cL_law 1666 = .ok (.bipush 6, 2) := by decide +kernel
theorem dL_law_1668 : decode cL_law 1668 = .ok (.irem, 1) := by decide +kernel
theorem dL_law_1669 : decode cL_law 1669 = .ok (.istore 37, 2) := by decide +kernel
theorem dL_law_1671 : decode cL_law 1671 = .ok (.aload_n 3, 1) := by decide +kernel
theorem dL_law_1672 : decode cL_law 1672 = .ok (.bipush 8, 2) := by decide +kernel
theorem dL_law_1674 : decode cL_law 1674 = .ok (.iload 16, 2) := by decide +kernel
theorem dL_law_1676 : decode cL_law 1676 = .ok (.imul, 1) := by decide +kernel
theorem dL_law_1677 : decode cL_law 1677 = .ok (.iconst 3, 1) := by decide +kernel
theorem dL_law_1678 : decode cL_law 1678 = .ok (.iadd, 1) := by decide +kernel
theorem dL_law_1679 : decode cL_law 1679 = .ok (.iaload, 1) := by decide +kernel
theorem dL_law_1680 : decode cL_law 1680 = .ok (.iload 37, 2) := by decide +kernel
theorem dL_law_1682 : decode cL_law 1682 = .ok (.if_icmp .ne 30, 3) := by decide +kernel
theorem dL_law_1685 : decode cL_law 1685 = .ok (.iload 18, 2) := by decide +kernel
theorem dL_law_1687 : decode cL_law 1687 = .ok (.aload_n 1, 1) := by decide +kernel
theorem dL_law_1688 : decode cL_law 1688 = .ok (.iload 16, 2) := by decide +kernel
theorem dL_law_1690 : decode cL_law 1690 = .ok (.iload 37, 2) := by decide +kernel
theorem dL_law_1692 : decode cL_law 1692 = .ok (.invokestatic 171, 3) := by decide +kernel
theorem dL_law_1695 : decode cL_law 1695 = .ok (.sipush (-7300), 3) := by decide +kernel
theorem dL_law_1698 : decode cL_law 1698 = .ok (.if_icmp .ne 7, 3) := by decide +kernel
theorem dL_law_1701 : decode cL_law 1701 = .ok (.iconst 1, 1) := by decide +kernel
theorem dL_law_1702 : decode cL_law 1702 = .ok (.goto 4, 3) := by decide +kernel
theorem dL_law_1705 : decode cL_law 1705 = .ok (.iconst 0, 1) := by decide +kernel
theorem dL_law_1706 : decode cL_law 1706 = .ok (.iand, 1) := by decide +kernel
theorem dL_law_1707 : decode cL_law 1707 = .ok (.istore 18, 2) := by decide +kernel
theorem dL_law_1709 : decode cL_law 1709 = .ok (.goto 185, 3) := by decide +kernel
theorem dL_law_1712 : decode cL_law 1712 = .ok (.iload 16, 2) := by decide +kernel
theorem dL_law_1714 : decode cL_law 1714 = .ok (.iload 37, 2) := by decide +kernel
theorem dL_law_1716 : decode cL_law 1716 = .ok (.aload_n 3, 1) := by decide +kernel
theorem dL_law_1717 : decode cL_law 1717 = .ok (.aload 5, 2) := by decide +kernel
theorem dL_law_1719 : decode cL_law 1719 = .ok (.aload_n 2, 1) := by decide +kernel
theorem dL_law_1720 : decode cL_law 1720 = .ok (.invokestatic 173, 3) := by decide +kernel
theorem dL_law_1723 : decode cL_law 1723 = .ok (.istore 38, 2) := by decide +kernel
theorem dL_law_1725 : decode cL_law 1725 = .ok (.aload_n 2, 1) := by decide +kernel
theorem dL_law_1726 : decode cL_law 1726 = .ok (.bipush 6, 2) := by decide +kernel
theorem dL_law_1728 : decode cL_law 1728 = .ok (.aload_n 3, 1) := by decide +kernel
theorem dL_law_1729 : decode cL_law 1729 = .ok (.bipush 8, 2) := by decide +kernel
theorem dL_law_1731 : decode cL_law 1731 = .ok (.iload 16, 2) := by decide +kernel
theorem dL_law_1733 : decode cL_law 1733 = .ok (.imul, 1) := by decide +kernel
theorem dL_law_1734 : decode cL_law 1734 = .ok (.iaload, 1) := by decide +kernel
theorem dL_law_1735 : decode cL_law 1735 = .ok (.iadd, 1) := by decide +kernel
theorem dL_law_1736 : decode cL_law 1736 = .ok (.iaload, 1) := by decide +kernel
theorem dL_law_1737 : decode cL_law 1737 = .ok (.istore 39, 2) := by decide +kernel
theorem dL_law_1739 : decode cL_law 1739 = .ok (.iload 38, 2) := by decide +kernel
theorem dL_law_1741 : decode cL_law 1741 = .ok (.ifCond .ne 46, 3) := by decide +kernel
theorem dL_law_1744 : decode cL_law 1744 = .ok (.iload 39, 2) := by decide +kernel
theorem dL_law_1746 : decode cL_law 1746 = .ok (.iconst (-1), 1) := by decide +kernel
theorem dL_law_1747 : decode cL_law 1747 = .ok (.if_icmp .eq 40, 3) := by decide +kernel
theorem dL_law_1750 : decode cL_law 1750 = .ok (.iload 39, 2) := by decide +kernel
theorem dL_law_1752 : decode cL_law 1752 = .ok (.iload 37, 2) := by decide +kernel
theorem dL_law_1754 : decode cL_law 1754 = .ok (.if_icmp .eq 33, 3) := by decide +kernel
theorem dL_law_1757 : decode cL_law 1757 = .ok (.aload_n 3, 1) := by decide +kernel
theorem dL_law_1758 : decode cL_law 1758 = .ok (.bipush 8, 2) := by decide +kernel
theorem dL_law_1760 : decode cL_law 1760 = .ok (.iload 16, 2) := by decide +kernel
theorem dL_law_1762 : decode cL_law 1762 = .ok (.imul, 1) := by decide +kernel
theorem dL_law_1763 : decode cL_law 1763 = .ok (.iconst 4, 1) := by decide +kernel
theorem dL_law_1764 : decode cL_law 1764 = .ok (.iadd, 1) := by decide +kernel
theorem dL_law_1765 : decode cL_law 1765 = .ok (.iaload, 1) := by decide +kernel
theorem dL_law_1766 : decode cL_law 1766 = .ok (.iconst 2, 1) := by decide +kernel
theorem dL_law_1767 : decode cL_law 1767 = .ok (.if_icmp .ge 20, 3) := by decide +kernel
theorem dL_law_1770 : decode cL_law 1770 = .ok (.iload 16, 2) := by decide +kernel
theorem dL_law_1772 : decode cL_law 1772 = .ok (.iload 39, 2) := by decide +kernel
theorem dL_law_1774 : decode cL_law 1774 = .ok (.aload_n 3, 1) := by decide +kernel
theorem dL_law_1775 : decode cL_law 1775 = .ok (.aload 5, 2) := by decide +kernel
theorem dL_law_1777 : decode cL_law 1777 = .ok (.aload_n 2, 1) := by decide +kernel
theorem dL_law_1778 : decode cL_law 1778 = .ok (.invokestatic 173, 3) := by decide +kernel
theorem dL_law_1781 : decode cL_law 1781 = .ok (.ifCond .ne 6, 3) := by decide +kernel
theorem dL_law_1784 : decode cL_law 1784 = .ok (.iconst 5, 1) := by decide +kernel
theorem dL_law_1785 : decode cL_law 1785 = .ok (.istore 38, 2) := by decide +kernel
theorem dL_law_1787 : decode cL_law 1787 = .ok (.iload 18, 2) := by decide +kernel
theorem dL_law_1789 : decode cL_law 1789 = .ok (.aload_n 1, 1) := by decide +kernel
theorem dL_law_1790 : decode cL_law 1790 = .ok (.iload 16, 2) := by decide +kernel
theorem dL_law_1792 : decode cL_law 1792 = .ok (.iload 37, 2) := by decide +kernel
theorem dL_law_1794 : decode cL_law 1794 = .ok (.invokestatic 171, 3) := by decide +kernel
theorem dL_law_1797 : decode cL_law 1797 = .ok (.iload 38, 2) := by decide +kernel
theorem dL_law_1799 : decode cL_law 1799 = .ok (.if_icmp .ne 7, 3) := by decide +kernel
theorem dL_law_1802 : decode cL_law 1802 = .ok (.iconst 1, 1) := by decide +kernel
theorem dL_law_1803 : decode cL_law 1803 = .ok (.goto 4, 3) := by decide +kernel
theorem dL_law_1806 : decode cL_law 1806 = .ok (.iconst 0, 1) := by decide +kernel
theorem dL_law_1807 : decode cL_law 1807 = .ok (.iand, 1) := by decide +kernel
theorem dL_law_1808 : decode cL_law 1808 = .ok (.istore 18, 2) := by decide +kernel
theorem dL_law_1810 : decode cL_law 1810 = .ok (.aload_n 3, 1) := by decide +kernel
theorem dL_law_1811 : decode cL_law 1811 = .ok (.bipush 8, 2) := by decide +kernel
theorem dL_law_1813 : decode cL_law 1813 = .ok (.iload 16, 2) := by decide +kernel
theorem dL_law_1815 : decode cL_law 1815 = .ok (.imul, 1) := by decide +kernel
theorem dL_law_1816 : decode cL_law 1816 = .ok (.iconst 4, 1) := by decide +kernel
theorem dL_law_1817 : decode cL_law 1817 = .ok (.iadd, 1) := by decide +kernel
theorem dL_law_1818 : decode cL_law 1818 = .ok (.iload 38, 2) := by decide +kernel
theorem dL_law_1820 : decode cL_law 1820 = .ok (.iconst 5, 1) := by decide +kernel
theorem dL_law_1821 : decode cL_law 1821 = .ok (.if_icmp .ne 17, 3) := by decide +kernel
theorem dL_law_1824 : decode cL_law 1824 = .ok (.aload_n 3, 1) := by decide +kernel
theorem dL_law_1825 : decode cL_law 1825 = .ok (.bipush 8, 2) := by decide +kernel
theorem dL_law_1827 : decode cL_law 1827 = .ok (.iload 16, 2) := by decide +kernel
theorem dL_law_1829 : decode cL_law 1829 = .ok (.imul, 1) := by decide +kernel
theorem dL_law_1830 : decode cL_law 1830 = .ok (.iconst 4, 1) := by decide +kernel
theorem dL_law_1831 : decode cL_law 1831 = .ok (.iadd, 1) := by decide +kernel
theorem dL_law_1832 : decode cL_law 1832 = .ok (.iaload, 1) := by decide +kernel
theorem dL_law_1833 : decode cL_law 1833 = .ok (.iconst 1, 1) := by decide +kernel
theorem dL_law_1834 : decode cL_law 1834 = .ok (.iadd, 1) := by decide +kernel
theorem dL_law_1835 : decode cL_law 1835 = .ok (.goto 21, 3) := by decide +kernel
theorem dL_law_1838 : decode cL_law 1838 = .ok (.iload 38, 2) := by decide +kernel
theorem dL_law_1840 : decode cL_law 1840 = .ok (.ifCond .ne 7, 3) := by decide +kernel
theorem dL_law_1843 : decode cL_law 1843 = .ok (.iconst 0, 1) := by decide +kernel
theorem dL_law_1844 : decode cL_law 1844 = .ok (.goto 12, 3) := by decide +kernel
theorem dL_law_1847 : decode cL_law 1847 = .ok (.aload_n 3, 1) := by decide +kernel
theorem dL_law_1848 : decode cL_law 1848 = .ok (.bipush 8, 2) := by decide +kernel
theorem dL_law_1850 : decode cL_law 1850 = .ok (.iload 16, 2) := by decide +kernel
theorem dL_law_1852 : decode cL_law 1852 = .ok (.imul, 1) := by decide +kernel
theorem dL_law_1853 : decode cL_law 1853 = .ok (.iconst 4, 1) := by decide +kernel
theorem dL_law_1854 : decode cL_law 1854 = .ok (.iadd, 1) := by decide +kernel
theorem dL_law_1855 : decode cL_law 1855 = .ok (.iaload, 1) := by decide +kernel
theorem dL_law_1856 : decode cL_law 1856 = .ok (.iastore, 1) := by decide +kernel
theorem dL_law_1857 : decode cL_law 1857 = .ok (.iload 38, 2) := by decide +kernel
theorem dL_law_1859 : decode cL_law 1859 = .ok (.ifCond .le 6, 3) := by decide +kernel
theorem dL_law_1862 : decode cL_law 1862 = .ok (.goto 26, 3) := by decide +kernel
theorem dL_law_1865 : decode cL_law 1865 = .ok (.aload_n 3, 1) := by decide +kernel
theorem dL_law_1866 : decode cL_law 1866 = .ok (.bipush 8, 2) := by decide +kernel
theorem dL_law_1868 : decode cL_law 1868 = .ok (.iload 16, 2) := by decide +kernel
theorem dL_law_1870 : decode cL_law 1870 = .ok (.imul, 1) := by decide +kernel
theorem dL_law_1871 : decode cL_law 1871 = .ok (.iconst 3, 1) := by decide +kernel
theorem dL_law_1872 : decode cL_law 1872 = .ok (.iadd, 1) := by decide +kernel
theorem dL_law_1873 : decode cL_law 1873 = .ok (.iload 37, 2) := by decide +kernel
theorem dL_law_1875 : decode cL_law 1875 = .ok (.iastore, 1) := by decide +kernel
theorem dL_law_1876 : decode cL_law 1876 = .ok (.iload 16, 2) := by decide +kernel
theorem dL_law_1878 : decode cL_law 1878 = .ok (.aload_n 3, 1) := by decide +kernel
theorem dL_law_1879 : decode cL_law 1879 = .ok (.aload 4, 2) := by decide +kernel
theorem dL_law_1881 : decode cL_law 1881 = .ok (.aload_n 2, 1) := by decide +kernel
theorem dL_law_1882 : decode cL_law 1882 = .ok (.invokestatic 176, 3) := by decide +kernel
theorem dL_law_1885 : decode cL_law 1885 = .ok (.goto 9, 3) := by decide +kernel
theorem dL_law_1888 : decode cL_law 1888 = .ok (.iinc 36 1, 3) := by decide +kernel
theorem dL_law_1891 : decode cL_law 1891 = .ok (.goto (-236), 3) := by decide +kernel
theorem dL_law_1894 : decode cL_law 1894 = .ok (.goto 1394, 3) := by decide +kernel
theorem dL_law_1897 : decode cL_law 1897 = .ok (.aload_n 2, 1) := by decide +kernel
theorem dL_law_1898 : decode cL_law 1898 = .ok (.iconst 1, 1) := by decide +kernel
theorem dL_law_1899 : decode cL_law 1899 = .ok (.iaload, 1) := by decide +kernel
theorem dL_law_1900 : decode cL_law 1900 = .ok (.ifCond .ne 6, 3) := by decide +kernel
theorem dL_law_1903 : decode cL_law 1903 = .ok (.goto 1385, 3) := by decide +kernel
theorem dL_law_1906 : decode cL_law 1906 = .ok (.aload_n 3, 1) := by decide +kernel
theorem dL_law_1907 : decode cL_law 1907 = .ok (.bipush 8, 2) := by decide +kernel
theorem dL_law_1909 : decode cL_law 1909 = .ok (.iload 16, 2) := by decide +kernel
theorem dL_law_1911 : decode cL_law 1911 = .ok (.imul, 1) := by decide +kernel
theorem dL_law_1912 : decode cL_law 1912 = .ok (.bipush 6, 2) := by decide +kernel
theorem dL_law_1914 : decode cL_law 1914 = .ok (.iadd, 1) := by decide +kernel
theorem dL_law_1915 : decode cL_law 1915 = .ok (.iload 14, 2) := by decide +kernel
theorem dL_law_1917 : decode cL_law 1917 = .ok (.iload 14, 2) := by decide +kernel
theorem dL_law_1919 : decode cL_law 1919 = .ok (.ldc 180, 2) := by decide +kernel
theorem dL_law_1921 : decode cL_law 1921 = .ok (.iand, 1) := by decide +kernel
theorem dL_law_1922 : decode cL_law 1922 = .ok (.ifCond .ne 9, 3) := by decide +kernel
theorem dL_law_1925 : decode cL_law 1925 = .ok (.sipush 500, 3) := by decide +kernel
theorem dL_law_1928 : decode cL_law 1928 = .ok (.goto 6, 3) := by decide +kernel
theorem dL_law_1931 : decode cL_law 1931 = .ok (.sipush 6000, 3) := by decide +kernel
theorem dL_law_1934 : decode cL_law 1934 = .ok (.invokestatic 124, 3) := by decide +kernel
theorem dL_law_1937 : decode cL_law 1937 = .ok (.iastore, 1) := by decide +kernel
theorem dL_law_1938 : decode cL_law 1938 = .ok (.aload_n 3, 1) := by decide +kernel
theorem dL_law_1939 : decode cL_law 1939 = .ok (.bipush 8, 2) := by decide +kernel
theorem dL_law_1941 : decode cL_law 1941 = .ok (.iload 16, 2) := by decide +kernel
theorem dL_law_1943 : decode cL_law 1943 = .ok (.imul, 1) := by decide +kernel
theorem dL_law_1944 : decode cL_law 1944 = .ok (.bipush 7, 2) := by decide +kernel
theorem dL_law_1946 : decode cL_law 1946 = .ok (.iadd, 1) := by decide +kernel
theorem dL_law_1947 : decode cL_law 1947 = .ok (.iload 14, 2) := by decide +kernel
theorem dL_law_1949 : decode cL_law 1949 = .ok (.bipush 7, 2) := by decide +kernel
theorem dL_law_1951 : decode cL_law 1951 = .ok (.ishr, 1) := by decide +kernel
theorem dL_law_1952 : decode cL_law 1952 = .ok (.iconst 1, 1) := by decide +kernel
theorem dL_law_1953 : decode cL_law 1953 = .ok (.iand, 1) := by decide +kernel
theorem dL_law_1954 : decode cL_law 1954 = .ok (.iastore, 1) := by decide +kernel
theorem dL_law_1955 : decode cL_law 1955 = .ok (.aload_n 1, 1) := by decide +kernel
theorem dL_law_1956 : decode cL_law 1956 = .ok (.iload 16, 2) := by decide +kernel
theorem dL_law_1958 : decode cL_law 1958 = .ok (.aload_n 3, 1) := by decide +kernel
theorem dL_law_1959 : decode cL_law 1959 = .ok (.bipush 8, 2) := by decide +kernel
theorem dL_law_1961 : decode cL_law 1961 = .ok (.iload 16, 2) := by decide +kernel
theorem dL_law_1963 : decode cL_law 1963 = .ok (.imul, 1) := by decide +kernel
theorem dL_law_1964 : decode cL_law 1964 = .ok (.bipush 6, 2) := by decide +kernel
theorem dL_law_1966 : decode cL_law 1966 = .ok (.iadd, 1) := by decide +kernel
theorem dL_law_1967 : decode cL_law 1967 = .ok (.iaload, 1) := by decide +kernel
theorem dL_law_1968 : decode cL_law 1968 = .ok (.aload_n 3, 1) := by decide +kernel
theorem dL_law_1969 : decode cL_law 1969 = .ok (.bipush 8, 2) := by decide +kernel
theorem dL_law_1971 : decode cL_law 1971 = .ok (.iload 16, 2) := by decide +kernel
theorem dL_law_1973 : decode cL_law 1973 = .ok (.imul, 1) := by decide +kernel
theorem dL_law_1974 : decode cL_law 1974 = .ok (.bipush 7, 2) := by decide +kernel
theorem dL_law_1976 : decode cL_law 1976 = .ok (.iadd, 1) := by decide +kernel
theorem dL_law_1977 : decode cL_law 1977 = .ok (.iaload, 1) := by decide +kernel
theorem dL_law_1978 : decode cL_law 1978 = .ok (.iconst 1, 1) := by decide +kernel
theorem dL_law_1979 : decode cL_law 1979 = .ok (.if_icmp .ne 7, 3) := by decide +kernel
theorem dL_law_1982 : decode cL_law 1982 = .ok (.iconst 1, 1) := by decide +kernel
theorem dL_law_1983 : decode cL_law 1983 = .ok (.goto 4, 3) := by decide +kernel
theorem dL_law_1986 : decode cL_law 1986 = .ok (.iconst 0, 1) := by decide +kernel
theorem dL_law_1987 : decode cL_law 1987 = .ok (.invokestatic 181, 3) := by decide +kernel
theorem dL_law_1990 : decode cL_law 1990 = .ok (.ifCond .ne 7, 3) := by decide +kernel
theorem dL_law_1993 : decode cL_law 1993 = .ok (.iconst 1, 1) := by decide +kernel
theorem dL_law_1994 : decode cL_law 1994 = .ok (.goto 4, 3) := by decide +kernel
theorem dL_law_1997 : decode cL_law 1997 = .ok (.iconst 0, 1) := by decide +kernel
theorem dL_law_1998 : decode cL_law 1998 = .ok (.istore 18, 2) := by decide +kernel
theorem dL_law_2000 : decode cL_law 2000 = .ok (.goto 1288, 3) := by decide +kernel
theorem dL_law_2003 : decode cL_law 2003 = .ok (.aload_n 2, 1) := by decide +kernel
theorem dL_law_2004 : decode cL_law 2004 = .ok (.iconst 1, 1) := by decide +kernel
theorem dL_law_2005 : decode cL_law 2005 = .ok (.iaload, 1) := by decide +kernel
theorem dL_law_2006 : decode cL_law 2006 = .ok (.iconst 2, 1) := by decide +kernel
theorem dL_law_2007 : decode cL_law 2007 = .ok (.if_icmp .lt 1281, 3) := by decide +kernel
theorem dL_law_2010 : decode cL_law 2010 = .ok (.aload_n 2, 1) := by decide +kernel
theorem dL_law_2011 : decode cL_law 2011 = .ok (.iconst 4, 1) := by decide +kernel
theorem dL_law_2012 : decode cL_law 2012 = .ok (.iaload, 1) := by decide +kernel
theorem dL_law_2013 : decode cL_law 2013 = .ok (.bipush 56, 2) := by decide +kernel
theorem dL_law_2015 : decode cL_law 2015 = .ok (.if_icmp .le 6, 3) := by decide +kernel
theorem dL_law_2018 : decode cL_law 2018 = .ok (.goto 1270, 3) := by decide +kernel
theorem dL_law_2021 : decode cL_law 2021 = .ok (.iconst 1, 1) := by decide +kernel
theorem dL_law_2022 : decode cL_law 2022 = .ok (.iload 14, 2) := by decide +kernel
theorem dL_law_2024 : decode cL_law 2024 = .ok (.iload 14, 2) := by decide +kernel
theorem dL_law_2026 : decode cL_law 2026 = .ok (.ldc 180, 2) := by decide +kernel
theorem dL_law_2028 : decode cL_law 2028 = .ok (.iand, 1) := by decide +kernel
theorem dL_law_2029 : decode cL_law 2029 = .ok (.ifCond .ne 9, 3) := by decide +kernel
theorem dL_law_2032 : decode cL_law 2032 = .ok (.sipush 600, 3) := by decide +kernel
theorem dL_law_2035 : decode cL_law 2035 = .ok (.goto 6, 3) := by decide +kernel
theorem dL_law_2038 : decode cL_law 2038 = .ok (.sipush 9000, 3) := by decide +kernel
theorem dL_law_2041 : decode cL_law 2041 = .ok (.invokestatic 124, 3) := by decide +kernel
theorem dL_law_2044 : decode cL_law 2044 = .ok (.iadd, 1) := by decide +kernel
theorem dL_law_2045 : decode cL_law 2045 = .ok (.istore 36, 2) := by decide +kernel
theorem dL_law_2047 : decode cL_law 2047 = .ok (.iload 36, 2) := by decide +kernel
theorem dL_law_2049 : decode cL_law 2049 = .ok (.bipush 60, 2) := by decide +kernel
theorem dL_law_2051 : decode cL_law 2051 = .ok (.idiv, 1) := by decide +kernel
theorem dL_law_2052 : decode cL_law 2052 = .ok (.iload 36, 2) := by decide +kernel
theorem dL_law_2054 : decode cL_law 2054 = .ok (.bipush 60, 2) := by decide +kernel
theorem dL_law_2056 : decode cL_law 2056 = .ok (.irem, 1) := by decide +kernel
theorem dL_law_2057 : decode cL_law 2057 = .ok (.ifCond .ne 7, 3) := by decide +kernel
theorem dL_law_2060 : decode cL_law 2060 = .ok (.iconst 0, 1) := by decide +kernel
theorem dL_law_2061 : decode cL_law 2061 = .ok (.goto 4, 3) := by decide +kernel
theorem dL_law_2064 : decode cL_law 2064 = .ok (.iconst 1, 1) := by decide +kernel
theorem dL_law_2065 : decode cL_law 2065 = .ok (.iadd, 1) := by decide +kernel
theorem dL_law_2066 : decode cL_law 2066 = .ok (.istore 37, 2) := by decide +kernel
theorem dL_law_2068 : decode cL_law 2068 = .ok (.iload 16, 2) := by decide +kernel
theorem dL_law_2070 : decode cL_law 2070 = .ok (.iload 17, 2) := by decide +kernel
theorem dL_law_2072 : decode cL_law 2072 = .ok (.if_icmp .ne 29, 3) := by decide +kernel
theorem dL_law_2075 : decode cL_law 2075 = .ok (.aload_n 1, 1) := by decide +kernel
theorem dL_law_2076 : decode cL_law 2076 = .ok (.iload 16, 2) := by decide +kernel
theorem dL_law_2078 : decode cL_law 2078 = .ok (.iload 17, 2) := by decide +kernel
theorem dL_law_2080 : decode cL_law 2080 = .ok (.iload 36, 2) := by decide +kernel
theorem dL_law_2082 : decode cL_law 2082 = .ok (.invokestatic 184, 3) := by decide +kernel
theorem dL_law_2085 : decode cL_law 2085 = .ok (.sipush (-7200), 3) := by decide +kernel
theorem dL_law_2088 : decode cL_law 2088 = .ok (.if_icmp .ne 7, 3) := by decide +kernel
theorem dL_law_2091 : decode cL_law 2091 = .ok (.iconst 1, 1) := by decide +kernel
theorem dL_law_2092 : decode cL_law 2092 = .ok (.goto 4, 3) := by decide +kernel
theorem dL_law_2095 : decode cL_law 2095 = .ok (.iconst 0, 1) := by decide +kernel
theorem dL_law_2096 : decode cL_law 2096 = .ok (.istore 18, 2) := by decide +kernel
theorem dL_law_2098 : decode cL_law 2098 = .ok (.goto 1190, 3) := by decide +kernel
theorem dL_law_2101 : decode cL_law 2101 = .ok (.aload_n 3, 1) := by decide +kernel
theorem dL_law_2102 : decode cL_law 2102 = .ok (.bipush 8, 2) := by decide +kernel
theorem dL_law_2104 : decode cL_law 2104 = .ok (.iload 17, 2) := by decide +kernel
theorem dL_law_2106 : decode cL_law 2106 = .ok (.imul, 1) := by decide +kernel
theorem dL_law_2107 : decode cL_law 2107 = .ok (.iconst 5, 1) := by decide +kernel
theorem dL_law_2108 : decode cL_law 2108 = .ok (.iadd, 1) := by decide +kernel
theorem dL_law_2109 : decode cL_law 2109 = .ok (.iaload, 1) := by decide +kernel
theorem dL_law_2110 : decode cL_law 2110 = .ok (.istore 38, 2) := by decide +kernel
theorem dL_law_2112 : decode cL_law 2112 = .ok (.aload_n 3, 1) := by decide +kernel
theorem dL_law_2113 : decode cL_law 2113 = .ok (.bipush 8, 2) := by decide +kernel
theorem dL_law_2115 : decode cL_law 2115 = .ok (.iload 16, 2) := by decide +kernel
theorem dL_law_2117 : decode cL_law 2117 = .ok (.imul, 1) := by decide +kernel
theorem dL_law_2118 : decode cL_law 2118 = .ok (.iconst 3, 1) := by decide +kernel
theorem dL_law_2119 : decode cL_law 2119 = .ok (.iadd, 1) := by decide +kernel
theorem dL_law_2120 : decode cL_law 2120 = .ok (.iaload, 1) := by decide +kernel
theorem dL_law_2121 : decode cL_law 2121 = .ok (.aload_n 3, 1) := by decide +kernel
theorem dL_law_2122 : decode cL_law 2122 = .ok (.bipush 8, 2) := by decide +kernel
theorem dL_law_2124 : decode cL_law 2124 = .ok (.iload 16, 2) := by decide +kernel
theorem dL_law_2126 : decode cL_law 2126 = .ok (.imul, 1) := by decide +kernel
theorem dL_law_2127 : decode cL_law 2127 = .ok (.iaload, 1) := by decide +kernel
theorem dL_law_2128 : decode cL_law 2128 = .ok (.if_icmp .eq 7, 3) := by decide +kernel
theorem dL_law_2131 : decode cL_law 2131 = .ok (.iconst 1, 1) := by decide +kernel
theorem dL_law_2132 : decode cL_law 2132 = .ok (.goto 4, 3) := by decide +kernel
theorem dL_law_2135 : decode cL_law 2135 = .ok (.iconst 0, 1) := by decide +kernel
theorem dL_law_2136 : decode cL_law 2136 = .ok (.istore 39, 2) := by decide +kernel
theorem dL_law_2138 : decode cL_law 2138 = .ok (.aload_n 3, 1) := by decide +kernel
theorem dL_law_2139 : decode cL_law 2139 = .ok (.bipush 8, 2) := by decide +kernel
theorem dL_law_2141 : decode cL_law 2141 = .ok (.iload 17, 2) := by decide +kernel
theorem dL_law_2143 : decode cL_law 2143 = .ok (.imul, 1) := by decide +kernel
theorem dL_law_2144 : decode cL_law 2144 = .ok (.iconst 3, 1) := by decide +kernel
theorem dL_law_2145 : decode cL_law 2145 = .ok (.iadd, 1) := by decide +kernel
theorem dL_law_2146 : decode cL_law 2146 = .ok (.iaload, 1) := by decide +kernel
theorem dL_law_2147 : decode cL_law 2147 = .ok (.aload_n 3, 1) := by decide +kernel
theorem dL_law_2148 : decode cL_law 2148 = .ok (.bipush 8, 2) := by decide +kernel
theorem dL_law_2150 : decode cL_law 2150 = .ok (.iload 17, 2) := by decide +kernel
theorem dL_law_2152 : decode cL_law 2152 = .ok (.imul, 1) := by decide +kernel
theorem dL_law_2153 : decode cL_law 2153 = .ok (.iaload, 1) := by decide +kernel
theorem dL_law_2154 : decode cL_law 2154 = .ok (.if_icmp .eq 7, 3) := by decide +kernel
theorem dL_law_2157 : decode cL_law 2157 = .ok (.iconst 1, 1) := by decide +kernel
theorem dL_law_2158 : decode cL_law 2158 = .ok (.goto 4, 3) := by decide +kernel
theorem dL_law_2161 : decode cL_law 2161 = .ok (.iconst 0, 1) := by decide +kernel
theorem dL_law_2162 : decode cL_law 2162 = .ok (.istore 40, 2) := by decide +kernel
theorem dL_law_2164 : decode cL_law 2164 = .ok (.iload 37, 2) := by decide +kernel
theorem dL_law_2166 : decode cL_law 2166 = .ok (.aload_n 2, 1) := by decide +kernel
theorem dL_law_2167 : decode cL_law 2167 = .ok (.bipush 26, 2) := by decide +kernel
theorem dL_law_2169 : decode cL_law 2169 = .ok (.iconst 3, 1) := by decide +kernel
theorem dL_law_2170 : decode cL_law 2170 = .ok (.aload_n 3, 1) := by decide +kernel
theorem dL_law_2171 : decode cL_law 2171 = .ok (.bipush 8, 2) := by decide +kernel
theorem dL_law_2173 : decode cL_law 2173 = .ok (.iload 16, 2) := by decide +kernel
theorem dL_law_2175 : decode cL_law 2175 = .ok (.imul, 1) := by decide +kernel
theorem dL_law_2176 : decode cL_law 2176 = .ok (.iaload, 1) := by decide +kernel
theorem dL_law_2177 : decode cL_law 2177 = .ok (.imul, 1) := by decide +kernel
theorem dL_law_2178 : decode cL_law 2178 = .ok (.iadd, 1) := by decide +kernel
theorem dL_law_2179 : decode cL_law 2179 = .ok (.iload 39, 2) := by decide +kernel
theorem dL_law_2181 : decode cL_law 2181 = .ok (.ifCond .eq 7, 3) := by decide +kernel
theorem dL_law_2184 : decode cL_law 2184 = .ok (.iconst 1, 1) := by decide +kernel
theorem dL_law_2185 : decode cL_law 2185 = .ok (.goto 4, 3) := by decide +kernel
theorem dL_law_2188 : decode cL_law 2188 = .ok (.iconst 0, 1) := by decide +kernel
theorem dL_law_2189 : decode cL_law 2189 = .ok (.iadd, 1) := by decide +kernel
theorem dL_law_2190 : decode cL_law 2190 = .ok (.iaload, 1) := by decide +kernel
theorem dL_law_2191 : decode cL_law 2191 = .ok (.imul, 1) := by decide +kernel
theorem dL_law_2192 : decode cL_law 2192 = .ok (.istore 41, 2) := by decide +kernel
theorem dL_law_2194 : decode cL_law 2194 = .ok (.iload 40, 2) := by decide +kernel
theorem dL_law_2196 : decode cL_law 2196 = .ok (.ifCond .eq 23, 3) := by decide +kernel
theorem dL_law_2199 : decode cL_law 2199 = .ok (.iload 37, 2) := by decide +kernel
theorem dL_law_2201 : decode cL_law 2201 = .ok (.aload_n 2, 1) := by decide +kernel
theorem dL_law_2202 : decode cL_law 2202 = .ok (.bipush 28, 2) := by decide +kernel
theorem dL_law_2204 : decode cL_law 2204 = .ok (.iconst 3, 1) := by decide +kernel
theorem dL_law_2205 : decode cL_law 2205 = .ok (.aload_n 3, 1) := by decide +kernel
theorem dL_law_2206 : decode cL_law 2206 = .ok (.bipush 8, 2) := by decide +kernel
theorem dL_law_2208 : decode cL_law 2208 = .ok (.iload 17, 2) := by decide +kernel
theorem dL_law_2210 : decode cL_law 2210 = .ok (.imul, 1) := by decide +kernel
theorem dL_law_2211 : decode cL_law 2211 = .ok (.iaload, 1) := by decide +kernel
theorem dL_law_2212 : decode cL_law 2212 = .ok (.imul, 1) := by decide +kernel
theorem dL_law_2213 : decode cL_law 2213 = .ok (.iadd, 1) := by decide +kernel
theorem dL_law_2214 : decode cL_law 2214 = .ok (.iaload, 1) := by decide +kernel
theorem dL_law_2215 : decode cL_law 2215 = .ok (.imul, 1) := by decide +kernel
theorem dL_law_2216 : decode cL_law 2216 = .ok (.goto 4, 3) := by decide +kernel
theorem dL_law_2219 : decode cL_law 2219 = .ok (.iconst 0, 1) := by decide +kernel
theorem dL_law_2220 : decode cL_law 2220 = .ok (.istore 42, 2) := by decide +kernel
theorem dL_law_2222 : decode cL_law 2222 = .ok (.aload_n 3, 1) := by decide +kernel
theorem dL_law_2223 : decode cL_law 2223 = .ok (.bipush 8, 2) := by decide +kernel
theorem dL_law_2225 : decode cL_law 2225 = .ok (.iload 16, 2) := by decide +kernel
theorem dL_law_2227 : decode cL_law 2227 = .ok (.imul, 1) := by decide +kernel
theorem dL_law_2228 : decode cL_law 2228 = .ok (.iconst 3, 1) := by decide +kernel
theorem dL_law_2229 : decode cL_law 2229 = .ok (.iadd, 1) := by decide +kernel
theorem dL_law_2230 : decode cL_law 2230 = .ok (.iaload, 1) := by decide +kernel
theorem dL_law_2231 : decode cL_law 2231 = .ok (.iconst (-1), 1) := by decide +kernel
theorem dL_law_2232 : decode cL_law 2232 = .ok (.if_icmp .ne 7, 3) := by decide +kernel
theorem dL_law_2235 : decode cL_law 2235 = .ok (.iconst 1, 1) := by decide +kernel
theorem dL_law_2236 : decode cL_law 2236 = .ok (.goto 51, 3) := by decide +kernel
theorem dL_law_2239 : decode cL_law 2239 = .ok (.iload 38, 2) := by decide +kernel
theorem dL_law_2241 : decode cL_law 2241 = .ok (.iconst (-1), 1) := by decide +kernel
theorem dL_law_2242 : decode cL_law 2242 = .ok (.if_icmp .ne 7, 3) := by decide +kernel
theorem dL_law_2245 : decode cL_law 2245 = .ok (.iconst 2, 1) := by decide +kernel
theorem dL_law_2246 : decode cL_law 2246 = .ok (.goto 41, 3) := by decide +kernel
theorem dL_law_2249 : decode cL_law 2249 = .ok (.aload 4, 2) := by decide +kernel
theorem dL_law_2251 : decode cL_law 2251 = .ok (.bipush 6, 2) := by decide +kernel
theorem dL_law_2253 : decode cL_law 2253 = .ok (.iload 38, 2) := by decide +kernel
theorem dL_law_2255 : decode cL_law 2255 = .ok (.imul, 1) := by decide +kernel
theorem dL_law_2256 : decode cL_law 2256 = .ok (.iload 17, 2) := by decide +kernel
theorem dL_law_2258 : decode cL_law 2258 = .ok (.iadd, 1) := by decide +kernel
theorem dL_law_2259 : decode cL_law 2259 = .ok (.iaload, 1) := by decide +kernel
theorem dL_law_2260 : decode cL_law 2260 = .ok (.iconst (-1), 1) := by decide +kernel
theorem dL_law_2261 : decode cL_law 2261 = .ok (.if_icmp .ne 7, 3) := by decide +kernel
theorem dL_law_2264 : decode cL_law 2264 = .ok (.iconst 3, 1) := by decide +kernel
theorem dL_law_2265 : decode cL_law 2265 = .ok (.goto 22, 3) := by decide +kernel
theorem dL_law_2268 : decode cL_law 2268 = .ok (.aload_n 3, 1) := by decide +kernel
theorem dL_law_2269 : decode cL_law 2269 = .ok (.bipush 8, 2) := by decide +kernel
theorem dL_law_2271 : decode cL_law 2271 = .ok (.iload 17, 2) := by decide +kernel
theorem dL_law_2273 : decode cL_law 2273 = .ok (.imul, 1) := by decide +kernel
theorem dL_law_2274 : decode cL_law 2274 = .ok (.iconst 3, 1) := by decide +kernel
theorem dL_law_2275 : decode cL_law 2275 = .ok (.iadd, 1) := by decide +kernel
theorem dL_law_2276 : decode cL_law 2276 = .ok (.iaload, 1) := by decide +kernel
theorem dL_law_2277 : decode cL_law 2277 = .ok (.iload 38, 2) := by decide +kernel
theorem dL_law_2279 : decode cL_law 2279 = .ok (.if_icmp .eq 7, 3) := by decide +kernel
theorem dL_law_2282 : decode cL_law 2282 = .ok (.iconst 4, 1) := by decide +kernel
theorem dL_law_2283 : decode cL_law 2283 = .ok (.goto 4, 3) := by decide +kernel
theorem dL_law_2286 : decode cL_law 2286 = .ok (.iconst 0, 1) := by decide +kernel
theorem dL_law_2287 : decode cL_law 2287 = .ok (.istore 43, 2) := by decide +kernel
theorem dL_law_2289 : decode cL_law 2289 = .ok (.iload 43, 2) := by decide +kernel
theorem dL_law_2291 : decode cL_law 2291 = .ok (.ifCond .ne 51, 3) := by decide +kernel
theorem dL_law_2294 : decode cL_law 2294 = .ok (.iload 39, 2) := by decide +kernel
theorem dL_law_2296 : decode cL_law 2296 = .ok (.ifCond .eq 46, 3) := by decide +kernel
theorem dL_law_2299 : decode cL_law 2299 = .ok (.aload_n 3, 1) := by decide +kernel
theorem dL_law_2300 : decode cL_law 2300 = .ok (.bipush 8, 2) := by decide +kernel
theorem dL_law_2302 : decode cL_law 2302 = .ok (.iload 16, 2) := by decide +kernel
theorem dL_law_2304 : decode cL_law 2304 = .ok (.imul, 1) := by decide +kernel
theorem dL_law_2305 : decode cL_law 2305 = .ok (.bipush 7, 2) := by decide +kernel
theorem dL_law_2307 : decode cL_law 2307 = .ok (.iadd, 1) := by decide +kernel
theorem dL_law_2308 : decode cL_law 2308 = .ok (.iaload, 1) := by decide +kernel
theorem dL_law_2309 : decode cL_law 2309 = .ok (.ifCond .ne 33, 3) := by decide +kernel
theorem dL_law_2312 : decode cL_law 2312 = .ok (.iload 16, 2) := by decide +kernel
theorem dL_law_2314 : decode cL_law 2314 = .ok (.iconst 1, 1) := by decide +kernel
theorem dL_law_2315 : decode cL_law 2315 = .ok (.aload 9, 2) := by decide +kernel
theorem dL_law_2317 : decode cL_law 2317 = .ok (.aload 10, 2) := by decide +kernel
theorem dL_law_2319 : decode cL_law 2319 = .ok (.aload_n 2, 1) := by decide +kernel
theorem dL_law_2320 : decode cL_law 2320 = .ok (.invokestatic 106, 3) := by decide +kernel
theorem dL_law_2323 : decode cL_law 2323 = .ok (.iload 41, 2) := by decide +kernel
theorem dL_law_2325 : decode cL_law 2325 = .ok (.iadd, 1) := by decide +kernel
theorem dL_law_2326 : decode cL_law 2326 = .ok (.aload_n 3, 1) := by decide +kernel
theorem dL_law_2327 : decode cL_law 2327 = .ok (.bipush 8, 2) := by decide +kernel
theorem dL_law_2329 : decode cL_law 2329 = .ok (.iload 16, 2) := by decide +kernel
theorem dL_law_2331 : decode cL_law 2331 = .ok (.imul, 1) := by decide +kernel
theorem dL_law_2332 : decode cL_law 2332 = .ok (.bipush 6, 2) := by decide +kernel
theorem dL_law_2334 : decode cL_law 2334 = .ok (.iadd, 1) := by decide +kernel
theorem dL_law_2335 : decode cL_law 2335 = .ok (.iaload, 1) := by decide +kernel
theorem dL_law_2336 : decode cL_law 2336 = .ok (.if_icmp .le 6, 3) := by decide +kernel
theorem dL_law_2339 : decode cL_law 2339 = .ok (.iconst 5, 1) := by decide +kernel
theorem dL_law_2340 : decode cL_law 2340 = .ok (.istore 43, 2) := by decide +kernel
theorem dL_law_2342 : decode cL_law 2342 = .ok (.iload 43, 2) := by decide +kernel
theorem dL_law_2344 : decode cL_law 2344 = .ok (.ifCond .ne 52, 3) := by decide +kernel
theorem dL_law_2347 : decode cL_law 2347 = .ok (.iload 40, 2) := by decide +kernel
theorem dL_law_2349 : decode cL_law 2349 = .ok (.ifCond .eq 47, 3) := by decide +kernel
theorem dL_law_2352 : decode cL_law 2352 = .ok (.aload_n 3, 1) := by decide +kernel
theorem dL_law_2353 : decode cL_law 2353 = .ok (.bipush 8, 2) := by decide +kernel
theorem dL_law_2355 : decode cL_law 2355 = .ok (.iload 17, 2) := by decide +kernel
theorem dL_law_2357 : decode cL_law 2357 = .ok (.imul, 1) := by decide +kernel
theorem dL_law_2358 : decode cL_law 2358 = .ok (.bipush 7, 2) := by decide +kernel
theorem dL_law_2360 : decode cL_law 2360 = .ok (.iadd, 1) := by decide +kernel
theorem dL_law_2361 : decode cL_law 2361 = .ok (.iaload, 1) := by decide +kernel
theorem dL_law_2362 : decode cL_law 2362 = .ok (.ifCond .ne 34, 3) := by decide +kernel
theorem dL_law_2365 : decode cL_law 2365 = .ok (.iload 17, 2) := by decide +kernel
theorem dL_law_2367 : decode cL_law 2367 = .ok (.iconst 1, 1) := by decide +kernel
theorem dL_law_2368 : decode cL_law 2368 = .ok (.aload 9, 2) := by decide +kernel
theorem dL_law_2370 : decode cL_law 2370 = .ok (.aload 10, 2) := by decide +kernel
theorem dL_law_2372 : decode cL_law 2372 = .ok (.aload_n 2, 1) := by decide +kernel
theorem dL_law_2373 : decode cL_law 2373 = .ok (.invokestatic 106, 3) := by decide +kernel
theorem dL_law_2376 : decode cL_law 2376 = .ok (.iload 42, 2) := by decide +kernel
theorem dL_law_2378 : decode cL_law 2378 = .ok (.iadd, 1) := by decide +kernel
theorem dL_law_2379 : decode cL_law 2379 = .ok (.aload_n 3, 1) := by decide +kernel
theorem dL_law_2380 : decode cL_law 2380 = .ok (.bipush 8, 2) := by decide +kernel
theorem dL_law_2382 : decode cL_law 2382 = .ok (.iload 17, 2) := by decide +kernel
theorem dL_law_2384 : decode cL_law 2384 = .ok (.imul, 1) := by decide +kernel
theorem dL_law_2385 : decode cL_law 2385 = .ok (.bipush 6, 2) := by decide +kernel
theorem dL_law_2387 : decode cL_law 2387 = .ok (.iadd, 1) := by decide +kernel
theorem dL_law_2388 : decode cL_law 2388 = .ok (.iaload, 1) := by decide +kernel
theorem dL_law_2389 : decode cL_law 2389 = .ok (.if_icmp .le 7, 3) := by decide +kernel
theorem dL_law_2392 : decode cL_law 2392 = .ok (.bipush 6, 2) := by decide +kernel
theorem dL_law_2394 : decode cL_law 2394 = .ok (.istore 43, 2) := by decide +kernel
theorem dL_law_2396 : decode cL_law 2396 = .ok (.aload_n 1, 1) := by decide +kernel
theorem dL_law_2397 : decode cL_law 2397 = .ok (.iload 16, 2) := by decide +kernel
theorem dL_law_2399 : decode cL_law 2399 = .ok (.iload 17, 2) := by decide +kernel
theorem dL_law_2401 : decode cL_law 2401 = .ok (.iload 36, 2) := by decide +kernel
theorem dL_law_2403 : decode cL_law 2403 = .ok (.invokestatic 184, 3) := by decide +kernel
theorem dL_law_2406 : decode cL_law 2406 = .ok (.iload 43, 2) := by decide +kernel
theorem dL_law_2408 : decode cL_law 2408 = .ok (.if_icmp .ne 7, 3) := by decide +kernel
theorem dL_law_2411 : decode cL_law 2411 = .ok (.iconst 1, 1) := by decide +kernel
theorem dL_law_2412 : decode cL_law 2412 = .ok (.goto 4, 3) := by decide +kernel
theorem dL_law_2415 : decode cL_law 2415 = .ok (.iconst 0, 1) := by decide +kernel
theorem dL_law_2416 : decode cL_law 2416 = .ok (.istore 18, 2) := by decide +kernel
theorem dL_law_2418 : decode cL_law 2418 = .ok (.iload 43, 2) := by decide +kernel
theorem dL_law_2420 : decode cL_law 2420 = .ok (.ifCond .le 6, 3) := by decide +kernel
theorem dL_law_2423 : decode cL_law 2423 = .ok (.goto 865, 3) := by decide +kernel
theorem dL_law_2426 : decode cL_law 2426 = .ok (.iconst 0, 1) := by decide +kernel
theorem dL_law_2427 : decode cL_law 2427 = .ok (.istore 44, 2) := by decide +kernel
theorem dL_law_2429 : decode cL_law 2429 = .ok (.iload 44, 2) := by decide +kernel
theorem dL_law_2431 : decode cL_law 2431 = .ok (.iconst 2, 1) := by decide +kernel
theorem dL_law_2432 : decode cL_law 2432 = .ok (.if_icmp .ge 169, 3) := by decide +kernel
theorem dL_law_2435 : decode cL_law 2435 = .ok (.iload 44, 2) := by decide +kernel
theorem dL_law_2437 : decode cL_law 2437 = .ok (.ifCond .ne 8, 3) := by decide +kernel
theorem dL_law_2440 : decode cL_law 2440 = .ok (.iload 16, 2) := by decide +kernel
theorem dL_law_2442 : decode cL_law 2442 = .ok (.goto 5, 3) := by decide +kernel
theorem dL_law_2445 : decode cL_law 2445 = .ok (.iload 17, 2) := by decide +kernel
theorem dL_law_2447 : decode cL_law 2447 = .ok (.istore 45, 2) := by decide +kernel
theorem dL_law_2449 : decode cL_law 2449 = .ok (.iload 44, 2) := by decide +kernel
theorem dL_law_2451 : decode cL_law 2451 = .ok (.ifCond .ne 8, 3) := by decide +kernel
theorem dL_law_2454 : decode cL_law 2454 = .ok (.iload 39, 2) := by decide +kernel
theorem dL_law_2456 : decode cL_law 2456 = .ok (.goto 5, 3) := by decide +kernel
theorem dL_law_2459 : decode cL_law 2459 = .ok (.iload 40, 2) := by decide +kernel
theorem dL_law_2461 : decode cL_law 2461 = .ok (.istore 46, 2) := by decide +kernel
theorem dL_law_2463 : decode cL_law 2463 = .ok (.aload 9, 2) := by decide +kernel
theorem dL_law_2465 : decode cL_law 2465 = .ok (.aload_n 2, 1) := by decide +kernel
theorem dL_law_2466 : decode cL_law 2466 = .ok (.iconst 4, 1) := by decide +kernel
theorem dL_law_2467 : decode cL_law 2467 = .ok (.iaload, 1) := by decide +kernel
theorem dL_law_2468 : decode cL_law 2468 = .ok (.iload 45, 2) := by decide +kernel
theorem dL_law_2470 : decode cL_law 2470 = .ok (.iload 46, 2) := by decide +kernel
theorem dL_law_2472 : decode cL_law 2472 = .ok (.ifCond .eq 8, 3) := by decide +kernel
theorem dL_law_2475 : decode cL_law 2475 = .ok (.bipush 8, 2) := by decide +kernel
theorem dL_law_2477 : decode cL_law 2477 = .ok (.goto 4, 3) := by decide +kernel
theorem dL_law_2480 : decode cL_law 2480 = .ok (.iconst 0, 1) := by decide +kernel
theorem dL_law_2481 : decode cL_law 2481 = .ok (.ior, 1) := by decide +kernel
theorem dL_law_2482 : decode cL_law 2482 = .ok (.iload 44, 2) := by decide +kernel
theorem dL_law_2484 : decode cL_law 2484 = .ok (.ifCond .ne 8, 3) := by decide +kernel
theorem dL_law_2487 : decode cL_law 2487 = .ok (.iload 41, 2) := by decide +kernel
theorem dL_law_2489 : decode cL_law 2489 = .ok (.goto 5, 3) := by decide +kernel
theorem dL_law_2492 : decode cL_law 2492 = .ok (.iload 42, 2) := by decide +kernel
theorem dL_law_2494 : decode cL_law 2494 = .ok (.iconst 4, 1) := by decide +kernel
theorem dL_law_2495 : decode cL_law 2495 = .ok (.ishl, 1) := by decide +kernel
theorem dL_law_2496 : decode cL_law 2496 = .ok (.ior, 1) := by decide +kernel
theorem dL_law_2497 : decode cL_law 2497 = .ok (.iastore, 1) := by decide +kernel
theorem dL_law_2498 : decode cL_law 2498 = .ok (.aload 10, 2) := by decide +kernel
theorem dL_law_2500 : decode cL_law 2500 = .ok (.aload_n 2, 1) := by decide +kernel
theorem dL_law_2501 : decode cL_law 2501 = .ok (.iconst 4, 1) := by decide +kernel
theorem dL_law_2502 : decode cL_law 2502 = .ok (.dup2, 1) := by decide +kernel
theorem dL_law_2503 : decode cL_law 2503 = .ok (.iaload, 1) := by decide +kernel
theorem dL_law_2504 : decode cL_law 2504 = .ok (.dup_x2, 1) := by decide +kernel
theorem dL_law_2505 : decode cL_law 2505 = .ok (.iconst 1, 1) := by decide +kernel
theorem dL_law_2506 : decode cL_law 2506 = .ok (.iadd, 1) := by decide +kernel
theorem dL_law_2507 : decode cL_law 2507 = .ok (.iastore, 1) := by decide +kernel
theorem dL_law_2508 : decode cL_law 2508 = .ok (.aload_n 2, 1) := by decide +kernel
theorem dL_law_2509 : decode cL_law 2509 = .ok (.iconst 0, 1) := by decide +kernel
theorem dL_law_2510 : decode cL_law 2510 = .ok (.iaload, 1) := by decide +kernel
theorem dL_law_2511 : decode cL_law 2511 = .ok (.iastore, 1) := by decide +kernel
theorem dL_law_2512 : decode cL_law 2512 = .ok (.iload 46, 2) := by decide +kernel
theorem dL_law_2514 : decode cL_law 2514 = .ok (.ifCond .ne 6, 3) := by decide +kernel
theorem dL_law_2517 : decode cL_law 2517 = .ok (.goto 78, 3) := by decide +kernel
theorem dL_law_2520 : decode cL_law 2520 = .ok (.aload 6, 2) := by decide +kernel
theorem dL_law_2522 : decode cL_law 2522 = .ok (.aload_n 2, 1) := by decide +kernel
theorem dL_law_2523 : decode cL_law 2523 = .ok (.iconst 3, 1) := by decide +kernel
theorem dL_law_2524 : decode cL_law 2524 = .ok (.iaload, 1) := by decide +kernel
theorem dL_law_2525 : decode cL_law 2525 = .ok (.aload_n 3, 1) := by decide +kernel
theorem dL_law_2526 : decode cL_law 2526 = .ok (.bipush 8, 2) := by decide +kernel
theorem dL_law_2528 : decode cL_law 2528 = .ok (.iload 45, 2) := by decide +kernel
theorem dL_law_2530 : decode cL_law 2530 = .ok (.imul, 1) := by decide +kernel
theorem dL_law_2531 : decode cL_law 2531 = .ok (.iconst 3, 1) := by decide +kernel
theorem dL_law_2532 : decode cL_law 2532 = .ok (.iadd, 1) := by decide +kernel
theorem dL_law_2533 : decode cL_law 2533 = .ok (.iaload, 1) := by decide +kernel
theorem dL_law_2534 : decode cL_law 2534 = .ok (.aload_n 3, 1) := by decide +kernel
theorem dL_law_2535 : decode cL_law 2535 = .ok (.bipush 8, 2) := by decide +kernel
theorem dL_law_2537 : decode cL_law 2537 = .ok (.iload 45, 2) := by decide +kernel
theorem dL_law_2539 : decode cL_law 2539 = .ok (.imul, 1) := by decide +kernel
theorem dL_law_2540 : decode cL_law 2540 = .ok (.iaload, 1) := by decide +kernel
theorem dL_law_2541 : decode cL_law 2541 = .ok (.iconst 3, 1) := by decide +kernel
theorem dL_law_2542 : decode cL_law 2542 = .ok (.ishl, 1) := by decide +kernel
theorem dL_law_2543 : decode cL_law 2543 = .ok (.ior, 1) := by decide +kernel
theorem dL_law_2544 : decode cL_law 2544 = .ok (.aload_n 3, 1) := by decide +kernel
theorem dL_law_2545 : decode cL_law 2545 = .ok (.bipush 8, 2) := by decide +kernel
theorem dL_law_2547 : decode cL_law 2547 = .ok (.iload 45, 2) := by decide +kernel
theorem dL_law_2549 : decode cL_law 2549 = .ok (.imul, 1) := by decide +kernel
theorem dL_law_2550 : decode cL_law 2550 = .ok (.iaload, 1) := by decide +kernel
theorem dL_law_2551 : decode cL_law 2551 = .ok (.aload_n 3, 1) := by decide +kernel
theorem dL_law_2552 : decode cL_law 2552 = .ok (.bipush 8, 2) := by decide +kernel
theorem dL_law_2554 : decode cL_law 2554 = .ok (.iload 45, 2) := by decide +kernel
theorem dL_law_2556 : decode cL_law 2556 = .ok (.imul, 1) := by decide +kernel
theorem dL_law_2557 : decode cL_law 2557 = .ok (.iconst 3, 1) := by decide +kernel
theorem dL_law_2558 : decode cL_law 2558 = .ok (.iadd, 1) := by decide +kernel
theorem dL_law_2559 : decode cL_law 2559 = .ok (.iaload, 1) := by decide +kernel
theorem dL_law_2560 : decode cL_law 2560 = .ok (.aload 5, 2) := by decide +kernel
theorem dL_law_2562 : decode cL_law 2562 = .ok (.aload_n 2, 1) := by decide +kernel
theorem dL_law_2563 : decode cL_law 2563 = .ok (.invokestatic 101, 3) := by decide +kernel
theorem dL_law_2566 : decode cL_law 2566 = .ok (.iconst 1, 1) := by decide +kernel
theorem dL_law_2567 : decode cL_law 2567 = .ok (.iadd, 1) := by decide +kernel
theorem dL_law_2568 : decode cL_law 2568 = .ok (.bipush 13, 2) := by decide +kernel
theorem dL_law_2570 : decode cL_law 2570 = .ok (.ishl, 1) := by decide +kernel
theorem dL_law_2571 : decode cL_law 2571 = .ok (.ior, 1) := by decide +kernel
theorem dL_law_2572 : decode cL_law 2572 = .ok (.iastore, 1) := by decide +kernel
theorem dL_law_2573 : decode cL_law 2573 = .ok (.aload 7, 2) := by decide +kernel
theorem dL_law_2575 : decode cL_law 2575 = .ok (.aload_n 2, 1) := by decide +kernel
theorem dL_law_2576 : decode cL_law 2576 = .ok (.iconst 3, 1) := by decide +kernel
theorem dL_law_2577 : decode cL_law 2577 = .ok (.iaload, 1) := by decide +kernel
theorem dL_law_2578 : decode cL_law 2578 = .ok (.iload 37, 2) := by decide +kernel
theorem dL_law_2580 : decode cL_law 2580 = .ok (.iastore, 1) := by decide +kernel
theorem dL_law_2581 : decode cL_law 2581 = .ok (.aload 8, 2) := by decide +kernel
theorem dL_law_2583 : decode cL_law 2583 = .ok (.aload_n 2, 1) := by decide +kernel
theorem dL_law_2584 : decode cL_law 2584 = .ok (.iconst 3, 1) := by decide +kernel
theorem dL_law_2585 : decode cL_law 2585 = .ok (.dup2, 1) := by decide +kernel
theorem dL_law_2586 : decode cL_law 2586 = .ok (.iaload, 1) := by decide +kernel
theorem dL_law_2587 : decode cL_law 2587 = .ok (.dup_x2, 1) := by decide +kernel
theorem dL_law_2588 : decode cL_law 2588 = .ok (.iconst 1, 1) := by decide +kernel
theorem dL_law_2589 : decode cL_law 2589 = .ok (.iadd, 1) := by decide +kernel
theorem dL_law_2590 : decode cL_law 2590 = .ok (.iastore, 1) := by decide +kernel
theorem dL_law_2591 : decode cL_law 2591 = .ok (.aload_n 2, 1) := by decide +kernel
theorem dL_law_2592 : decode cL_law 2592 = .ok (.iconst 0, 1) := by decide +kernel
theorem dL_law_2593 : decode cL_law 2593 = .ok (.iaload, 1) := by decide +kernel
theorem dL_law_2594 : decode cL_law 2594 = .ok (.iastore, 1) := by decide +kernel
theorem dL_law_2595 : decode cL_law 2595 = .ok (.iinc 44 1, 3) := by decide +kernel
theorem dL_law_2598 : decode cL_law 2598 = .ok (.goto (-169), 3) := by decide +kernel
theorem dL_law_2601 : decode cL_law 2601 = .ok (.goto 687, 3) := by decide +kernel
theorem dL_law_2604 : decode cL_law 2604 = .ok (.iload 14, 2) := by decide +kernel
theorem dL_law_2606 : decode cL_law 2606 = .ok (.iconst 3, 1) := by decide +kernel
theorem dL_law_2607 : decode cL_law 2607 = .ok (.invokestatic 124, 3) := by decide +kernel
theorem dL_law_2610 : decode cL_law 2610 = .ok (.istore 44, 2) := by decide +kernel
theorem dL_law_2612 : decode cL_law 2612 = .ok (.iconst 0, 1) := by decide +kernel
theorem dL_law_2613 : decode cL_law 2613 = .ok (.istore 45, 2) := by decide +kernel
theorem dL_law_2615 : decode cL_law 2615 = .ok (.iload 45, 2) := by decide +kernel
theorem dL_law_2617 : decode cL_law 2617 = .ok (.bipush 6, 2) := by decide +kernel
theorem dL_law_2619 : decode cL_law 2619 = .ok (.if_icmp .ge 155, 3) := by decide +kernel
theorem dL_law_2622 : decode cL_law 2622 = .ok (.iload 45, 2) := by decide +kernel
theorem dL_law_2624 : decode cL_law 2624 = .ok (.iload 44, 2) := by decide +kernel
theorem dL_law_2626 : decode cL_law 2626 = .ok (.iconst 3, 1) := by decide +kernel
theorem dL_law_2627 : decode cL_law 2627 = .ok (.ishl, 1) := by decide +kernel
theorem dL_law_2628 : decode cL_law 2628 = .ok (.ior, 1) := by decide +kernel
theorem dL_law_2629 : decode cL_law 2629 = .ok (.istore 46, 2) := by decide +kernel
theorem dL_law_2631 : decode cL_law 2631 = .ok (.aload 11, 2) := by decide +kernel
theorem dL_law_2633 : decode cL_law 2633 = .ok (.iload 46, 2) := by decide +kernel
theorem dL_law_2635 : decode cL_law 2635 = .ok (.iaload, 1) := by decide +kernel
theorem dL_law_2636 : decode cL_law 2636 = .ok (.bipush 31, 2) := by decide +kernel
theorem dL_law_2638 : decode cL_law 2638 = .ok (.iand, 1) := by decide +kernel
theorem dL_law_2639 : decode cL_law 2639 = .ok (.istore 47, 2) := by decide +kernel
theorem dL_law_2641 : decode cL_law 2641 = .ok (.iconst 0, 1) := by decide +kernel
theorem dL_law_2642 : decode cL_law 2642 = .ok (.istore 48, 2) := by decide +kernel
theorem dL_law_2644 : decode cL_law 2644 = .ok (.iconst 0, 1) := by decide +kernel
theorem dL_law_2645 : decode cL_law 2645 = .ok (.istore 49, 2) := by decide +kernel
theorem dL_law_2647 : decode cL_law 2647 = .ok (.iload 49, 2) := by decide +kernel
theorem dL_law_2649 : decode cL_law 2649 = .ok (.aload_n 2, 1) := by decide +kernel
theorem dL_law_2650 : decode cL_law 2650 = .ok (.iconst 3, 1) := by decide +kernel
theorem dL_law_2651 : decode cL_law 2651 = .ok (.iaload, 1) := by decide +kernel
theorem dL_law_2652 : decode cL_law 2652 = .ok (.if_icmp .ge 64, 3) := by decide +kernel
theorem dL_law_2655 : decode cL_law 2655 = .ok (.aload 6, 2) := by decide +kernel
theorem dL_law_2657 : decode cL_law 2657 = .ok (.iload 49, 2) := by decide +kernel
theorem dL_law_2659 : decode cL_law 2659 = .ok (.iaload, 1) := by decide +kernel
theorem dL_law_2660 : decode cL_law 2660 = .ok (.bipush 63, 2) := by decide +kernel
theorem dL_law_2662 : decode cL_law 2662 = .ok (.iand, 1) := by decide +kernel
theorem dL_law_2663 : decode cL_law 2663 = .ok (.iload 46, 2) := by decide +kernel
theorem dL_law_2665 : decode cL_law 2665 = .ok (.if_icmp .ne 45, 3) := by decide +kernel
theorem dL_law_2668 : decode cL_law 2668 = .ok (.aload 6, 2) := by decide +kernel
theorem dL_law_2670 : decode cL_law 2670 = .ok (.iload 49, 2) := by decide +kernel
theorem dL_law_2672 : decode cL_law 2672 = .ok (.iaload, 1) := by decide +kernel
theorem dL_law_2673 : decode cL_law 2673 = .ok (.bipush 6, 2) := by decide +kernel
theorem dL_law_2675 : decode cL_law 2675 = .ok (.ishr, 1) := by decide +kernel
theorem dL_law_2676 : decode cL_law 2676 = .ok (.iconst 3, 1) := by decide +kernel
theorem dL_law_2677 : decode cL_law 2677 = .ok (.iand, 1) := by decide +kernel
theorem dL_law_2678 : decode cL_law 2678 = .ok (.ifCond .ne 32, 3) := by decide +kernel
theorem dL_law_2681 : decode cL_law 2681 = .ok (.iload 47, 2) := by decide +kernel
theorem dL_law_2683 : decode cL_law 2683 = .ok (.bipush 20, 2) := by decide +kernel
theorem dL_law_2685 : decode cL_law 2685 = .ok (.if_icmp .ne 6, 3) := by decide +kernel
theorem dL_law_2688 : decode cL_law 2688 = .ok (.goto 22, 3) := by decide +kernel
theorem dL_law_2691 : decode cL_law 2691 = .ok (.iconst 1, 1) := by decide +kernel
theorem dL_law_2692 : decode cL_law 2692 = .ok (.istore 48, 2) := by decide +kernel
theorem dL_law_2694 : decode cL_law 2694 = .ok (.aload 6, 2) := by decide +kernel
theorem dL_law_2696 : decode cL_law 2696 = .ok (.iload 49, 2) := by decide +kernel
theorem dL_law_2698 : decode cL_law 2698 = .ok (.dup2, 1) := by decide +kernel
theorem dL_law_2699 : decode cL_law 2699 = .ok (.iaload, 1) := by decide +kernel
theorem dL_law_2700 : decode cL_law 2700 = .ok (.bipush 64, 2) := by decide +kernel
theorem dL_law_2702 : decode cL_law 2702 = .ok (.iload 47, 2) := by decide +kernel
theorem dL_law_2704 : decode cL_law 2704 = .ok (.bipush 8, 2) := by decide +kernel
theorem dL_law_2706 : decode cL_law 2706 = .ok (.ishl, 1) := by decide +kernel
theorem dL_law_2707 : decode cL_law 2707 = .ok (.ior, 1) := by decide +kernel
theorem dL_law_2708 : decode cL_law 2708 = .ok (.ior, 1) := by decide +kernel
theorem dL_law_2709 : decode cL_law 2709 = .ok (.iastore, 1) := by decide +kernel
theorem dL_law_2710 : decode cL_law 2710 = .ok (.iinc 49 1, 3) := by decide +kernel
theorem dL_law_2713 : decode cL_law 2713 = .ok (.goto (-66), 3) := by decide +kernel
theorem dL_law_2716 : decode cL_law 2716 = .ok (.iload 18, 2) := by decide +kernel
theorem dL_law_2718 : decode cL_law 2718 = .ok (.aload_n 1, 1) := by decide +kernel
theorem dL_law_2719 : decode cL_law 2719 = .ok (.iload 45, 2) := by decide +kernel
theorem dL_law_2721 : decode cL_law 2721 = .ok (.iload 44, 2) := by decide +kernel
theorem dL_law_2723 : decode cL_law 2723 = .ok (.invokestatic 186, 3) := by decide +kernel
theorem dL_law_2726 : decode cL_law 2726 = .ok (.iload 48, 2) := by decide +kernel
theorem dL_law_2728 : decode cL_law 2728 = .ok (.ifCond .eq 8, 3) := by decide +kernel
theorem dL_law_2731 : decode cL_law 2731 = .ok (.iload 47, 2) := by decide +kernel
theorem dL_law_2733 : decode cL_law 2733 = .ok (.goto 6, 3) := by decide +kernel
theorem dL_law_2736 : decode cL_law 2736 = .ok (.sipush (-7300), 3) := by decide +kernel
theorem dL_law_2739 : decode cL_law 2739 = .ok (.if_icmp .ne 7, 3) := by decide +kernel
theorem dL_law_2742 : decode cL_law 2742 = .ok (.iconst 1, 1) := by decide +kernel
theorem dL_law_2743 : decode cL_law 2743 = .ok (.goto 4, 3) := by decide +kernel
theorem dL_law_2746 : decode cL_law 2746 = .ok (.iconst 0, 1) := by decide +kernel
theorem dL_law_2747 : decode cL_law 2747 = .ok (.iand, 1) := by decide +kernel
theorem dL_law_2748 : decode cL_law 2748 = .ok (.istore 18, 2) := by decide +kernel
theorem dL_law_2750 : decode cL_law 2750 = .ok (.aload 11, 2) := by decide +kernel
theorem dL_law_2752 : decode cL_law 2752 = .ok (.iload 46, 2) := by decide +kernel
theorem dL_law_2754 : decode cL_law 2754 = .ok (.dup2, 1) := by decide +kernel
theorem dL_law_2755 : decode cL_law 2755 = .ok (.iaload, 1) := by decide +kernel
theorem dL_law_2756 : decode cL_law 2756 = .ok (.iload 48, 2) := by decide +kernel
theorem dL_law_2758 : decode cL_law 2758 = .ok (.ifCond .eq 7, 3) := by decide +kernel
theorem dL_law_2761 : decode cL_law 2761 = .ok (.iconst 1, 1) := by decide +kernel
theorem dL_law_2762 : decode cL_law 2762 = .ok (.goto 4, 3) := by decide +kernel
theorem dL_law_2765 : decode cL_law 2765 = .ok (.iconst 0, 1) := by decide +kernel
theorem dL_law_2766 : decode cL_law 2766 = .ok (.iadd, 1) := by decide +kernel
theorem dL_law_2767 : decode cL_law 2767 = .ok (.iastore, 1) := by decide +kernel
theorem dL_law_2768 : decode cL_law 2768 = .ok (.iinc 45 1, 3) := by decide +kernel
theorem dL_law_2771 : decode cL_law 2771 = .ok (.goto (-156), 3) := by decide +kernel
theorem dL_law_2774 : decode cL_law 2774 = .ok (.goto 514, 3) := by decide +kernel
theorem dL_law_2777 : decode cL_law 2777 = .ok (.iload 14, 2) := by decide +kernel
theorem dL_law_2779 : decode cL_law 2779 = .ok (.iconst 3, 1) := by decide +kernel
theorem dL_law_2780 : decode cL_law 2780 = .ok (.invokestatic 124, 3) := by decide +kernel
theorem dL_law_2783 : decode cL_law 2783 = .ok (.istore 45, 2) := by decide +kernel
theorem dL_law_2785 : decode cL_law 2785 = .ok (.iload 15, 2) := by decide +kernel
theorem dL_law_2787 : decode cL_law 2787 = .ok (.iload 45, 2) := by decide +kernel
theorem dL_law_2789 : decode cL_law 2789 = .ok (.iconst 3, 1) := by decide +kernel
theorem dL_law_2790 : decode cL_law 2790 = .ok (.ishl, 1) := by decide +kernel
theorem dL_law_2791 : decode cL_law 2791 = .ok (.ior, 1) := by decide +kernel
theorem dL_law_2792 : decode cL_law 2792 = .ok (.istore 46, 2) := by decide +kernel
theorem dL_law_2794 : decode cL_law 2794 = .ok (.aload 11, 2) := by decide +kernel
theorem dL_law_2796 : decode cL_law 2796 = .ok (.iload 46, 2) := by decide +kernel
theorem dL_law_2798 : decode cL_law 2798 = .ok (.iaload, 1) := by decide +kernel
theorem dL_law_2799 : decode cL_law 2799 = .ok (.bipush 31, 2) := by decide +kernel
theorem dL_law_2801 : decode cL_law 2801 = .ok (.iand, 1) := by decide +kernel
theorem dL_law_2802 : decode cL_law 2802 = .ok (.istore 47, 2) := by decide +kernel
theorem dL_law_2804 : decode cL_law 2804 = .ok (.aload_n 1, 1) := by decide +kernel
theorem dL_law_2805 : decode cL_law 2805 = .ok (.iload 15, 2) := by decide +kernel
theorem dL_law_2807 : decode cL_law 2807 = .ok (.iload 45, 2) := by decide +kernel
theorem dL_law_2809 : decode cL_law 2809 = .ok (.iload 47, 2) := by decide +kernel
theorem dL_law_2811 : decode cL_law 2811 = .ok (.invokestatic 188, 3) := by decide +kernel
theorem dL_law_2814 : decode cL_law 2814 = .ok (.sipush (-7100), 3) := by decide +kernel
theorem dL_law_2817 : decode cL_law 2817 = .ok (.if_icmp .ne 7, 3) := by decide +kernel
theorem dL_law_2820 : decode cL_law 2820 = .ok (.iconst 1, 1) := by decide +kernel
theorem dL_law_2821 : decode cL_law 2821 = .ok (.goto 4, 3) := by decide +kernel
theorem dL_law_2824 : decode cL_law 2824 = .ok (.iconst 0, 1) := by decide +kernel
theorem dL_law_2825 : decode cL_law 2825 = .ok (.istore 18, 2) := by decide +kernel
theorem dL_law_2827 : decode cL_law 2827 = .ok (.iconst 0, 1) := by decide +kernel
theorem dL_law_2828 : decode cL_law 2828 = .ok (.istore 48, 2) := by decide +kernel
theorem dL_law_2830 : decode cL_law 2830 = .ok (.iload 48, 2) := by decide +kernel
theorem dL_law_2832 : decode cL_law 2832 = .ok (.iconst 2, 1) := by decide +kernel
theorem dL_law_2833 : decode cL_law 2833 = .ok (.if_icmp .ge 243, 3) := by decide +kernel
theorem dL_law_2836 : decode cL_law 2836 = .ok (.iload 47, 2) := by decide +kernel
theorem dL_law_2838 : decode cL_law 2838 = .ok (.ifCond .le 238, 3) := by decide +kernel
theorem dL_law_2841 : decode cL_law 2841 = .ok (.iload 14, 2) := by decide +kernel
theorem dL_law_2843 : decode cL_law 2843 = .ok (.iconst 4, 1) := by decide +kernel
theorem dL_law_2844 : decode cL_law 2844 = .ok (.iconst 3, 1) := by decide +kernel
theorem dL_law_2845 : decode cL_law 2845 = .ok (.iload 48, 2) := by decide +kernel
theorem dL_law_2847 : decode cL_law 2847 = .ok (.imul, 1) := by decide +kernel
theorem dL_law_2848 : decode cL_law 2848 = .ok (.iadd, 1) := by decide +kernel
theorem dL_law_2849 : decode cL_law 2849 = .ok (.ishr, 1) := by decide +kernel
theorem dL_law_2850 : decode cL_law 2850 = .ok (.iload 47, 2) := by decide +kernel
theorem dL_law_2852 : decode cL_law 2852 = .ok (.invokestatic 124, 3) := by decide +kernel
theorem dL_law_2855 : decode cL_law 2855 = .ok (.istore 49, 2) := by decide +kernel
theorem dL_law_2857 : decode cL_law 2857 = .ok (.aload 11, 2) := by decide +kernel
theorem dL_law_2859 : decode cL_law 2859 = .ok (.iload 46, 2) := by decide +kernel
theorem dL_law_2861 : decode cL_law 2861 = .ok (.iaload, 1) := by decide +kernel
theorem dL_law_2862 : decode cL_law 2862 = .ok (.iconst 5, 1) := by decide +kernel
theorem dL_law_2863 : decode cL_law 2863 = .ok (.ishr, 1) := by decide +kernel
theorem dL_law_2864 : decode cL_law 2864 = .ok (.istore 50, 2) := by decide +kernel
theorem dL_law_2866 : decode cL_law 2866 = .ok (.iload 49, 2) := by decide +kernel
theorem dL_law_2868 : decode cL_law 2868 = .ok (.iload 50, 2) := by decide +kernel
theorem dL_law_2870 : decode cL_law 2870 = .ok (.if_icmp .eq 42, 3) := by decide +kernel
theorem dL_law_2873 : decode cL_law 2873 = .ok (.iload 18, 2) := by decide +kernel
theorem dL_law_2875 : decode cL_law 2875 = .ok (.aload_n 1, 1) := by decide +kernel
theorem dL_law_2876 : decode cL_law 2876 = .ok (.iload 15, 2) := by decide +kernel
theorem dL_law_2878 : decode cL_law 2878 = .ok (.iload 45, 2) := by decide +kernel
theorem dL_law_2880 : decode cL_law 2880 = .ok (.iload 49, 2) := by decide +kernel
theorem dL_law_2882 : decode cL_law 2882 = .ok (.invokestatic 188, 3) := by decide +kernel
theorem dL_law_2885 : decode cL_law 2885 = .ok (.iload 49, 2) := by decide +kernel
theorem dL_law_2887 : decode cL_law 2887 = .ok (.iload 50, 2) := by decide +kernel
theorem dL_law_2889 : decode cL_law 2889 = .ok (.if_icmp .ge 7, 3) := by decide +kernel
theorem dL_law_2892 : decode cL_law 2892 = .ok (.iconst (-1), 1) := by decide +kernel
theorem dL_law_2893 : decode cL_law 2893 = .ok (.goto 5, 3) := by decide +kernel
theorem dL_law_2896 : decode cL_law 2896 = .ok (.bipush (-2), 2) := by decide +kernel
theorem dL_law_2898 : decode cL_law 2898 = .ok (.if_icmp .ne 7, 3) := by decide +kernel
theorem dL_law_2901 : decode cL_law 2901 = .ok (.iconst 1, 1) := by decide +kernel
theorem dL_law_2902 : decode cL_law 2902 = .ok (.goto 4, 3) := by decide +kernel
theorem dL_law_2905 : decode cL_law 2905 = .ok (.iconst 0, 1) := by decide +kernel
theorem dL_law_2906 : decode cL_law 2906 = .ok (.iand, 1) := by decide +kernel
theorem dL_law_2907 : decode cL_law 2907 = .ok (.istore 18, 2) := by decide +kernel
theorem dL_law_2909 : decode cL_law 2909 = .ok (.goto 161, 3) := by decide +kernel
theorem dL_law_2912 : decode cL_law 2912 = .ok (.iconst 0, 1) := by decide +kernel
theorem dL_law_2913 : decode cL_law 2913 = .ok (.istore 51, 2) := by decide +kernel
theorem dL_law_2915 : decode cL_law 2915 = .ok (.iconst 0, 1) := by decide +kernel
theorem dL_law_2916 : decode cL_law 2916 = .ok (.istore 52, 2) := by decide +kernel
theorem dL_law_2918 : decode cL_law 2918 = .ok (.iload 52, 2) := by decide +kernel
theorem dL_law_2920 : decode cL_law 2920 = .ok (.aload_n 2, 1) := by decide +kernel
theorem dL_law_2921 : decode cL_law 2921 = .ok (.iconst 3, 1) := by decide +kernel
theorem dL_law_2922 : decode cL_law 2922 = .ok (.iaload, 1) := by decide +kernel
theorem dL_law_2923 : decode cL_law 2923 = .ok (.if_icmp .ge 112, 3) := by decide +kernel
theorem dL_law_2926 : decode cL_law 2926 = .ok (.aload 6, 2) := by decide +kernel
theorem dL_law_2928 : decode cL_law 2928 = .ok (.iload 52, 2) := by decide +kernel
theorem dL_law_2930 : decode cL_law 2930 = .ok (.iaload, 1) := by decide +kernel
theorem dL_law_2931 : decode cL_law 2931 = .ok (.bipush 63, 2) := by decide +kernel
theorem dL_law_2933 : decode cL_law 2933 = .ok (.iand, 1) := by decide +kernel
theorem dL_law_2934 : decode cL_law 2934 = .ok (.iload 46, 2) := by decide +kernel
theorem dL_law_2936 : decode cL_law 2936 = .ok (.if_icmp .ne 93, 3) := by decide +kernel
theorem dL_law_2939 : decode cL_law 2939 = .ok (.aload 6, 2) := by decide +kernel
theorem dL_law_2941 : decode cL_law 2941 = .ok (.iload 52, 2) := by decide +kernel
theorem dL_law_2943 : decode cL_law 2943 = .ok (.iaload, 1) := by decide +kernel
theorem dL_law_2944 : decode cL_law 2944 = .ok (.bipush 6, 2) := by decide +kernel
theorem dL_law_2946 : decode cL_law 2946 = .ok (.ishr, 1) := by decide +kernel
theorem dL_law_2947 : decode cL_law 2947 = .ok (.iconst 3, 1) := by decide +kernel
theorem dL_law_2948 : decode cL_law 2948 = .ok (.iand, 1) := by decide +kernel
theorem dL_law_2949 : decode cL_law 2949 = .ok (.iconst 1, 1) := by decide +kernel
theorem dL_law_2950 : decode cL_law 2950 = .ok (.if_icmp .ne 79, 3) := by decide +kernel
theorem dL_law_2953 : decode cL_law 2953 = .ok (.aload 6, 2) := by decide +kernel
theorem dL_law_2955 : decode cL_law 2955 = .ok (.iload 52, 2) := by decide +kernel
theorem dL_law_2957 : decode cL_law 2957 = .ok (.iaload, 1) := by decide +kernel
theorem dL_law_2958 : decode cL_law 2958 = .ok (.bipush 8, 2) := by decide +kernel
theorem dL_law_2960 : decode cL_law 2960 = .ok (.ishr, 1) := by decide +kernel
theorem dL_law_2961 : decode cL_law 2961 = .ok (.bipush 31, 2) := by decide +kernel
theorem dL_law_2963 : decode cL_law 2963 = .ok (.iand, 1) := by decide +kernel
theorem dL_law_2964 : decode cL_law 2964 = .ok (.iload 49, 2) := by decide +kernel
theorem dL_law_2966 : decode cL_law 2966 = .ok (.if_icmp .eq 6, 3) := by decide +kernel
theorem dL_law_2969 : decode cL_law 2969 = .ok (.goto 60, 3) := by decide +kernel
theorem dL_law_2972 : decode cL_law 2972 = .ok (.aload 8, 2) := by decide +kernel
theorem dL_law_2974 : decode cL_law 2974 = .ok (.iload 52, 2) := by decide +kernel
theorem dL_law_2976 : decode cL_law 2976 = .ok (.iaload, 1) := by decide +kernel
theorem dL_law_2977 : decode cL_law 2977 = .ok (.ldc 105, 2) := by decide +kernel
theorem dL_law_2979 : decode cL_law 2979 = .ok (.iadd, 1) := by decide +kernel
theorem dL_law_2980 : decode cL_law 2980 = .ok (.aload_n 2, 1) := by decide +kernel
theorem dL_law_2981 : decode cL_law 2981 = .ok (.iconst 0, 1) := by decide +kernel
theorem dL_law_2982 : decode cL_law 2982 = .ok (.iaload, 1) := by decide +kernel
theorem dL_law_2983 : decode cL_law 2983 = .ok (.if_icmp .gt 7, 3) := by decide +kernel
theorem dL_law_2986 : decode cL_law 2986 = .ok (.iconst 1, 1) := by decide +kernel
theorem dL_law_2987 : decode cL_law 2987 = .ok (.goto 4, 3) := by decide +kernel
theorem dL_law_2990 : decode cL_law 2990 = .ok (.iconst 0, 1) := by decide +kernel
theorem dL_law_2991 : decode cL_law 2991 = .ok (.istore 53, 2) := by decide +kernel
theorem dL_law_2993 : decode cL_law 2993 = .ok (.iload 51, 2) := by decide +kernel
theorem dL_law_2995 : decode cL_law 2995 = .ok (.iload 53, 2) := by decide +kernel
theorem dL_law_2997 : decode cL_law 2997 = .ok (.ifCond .eq 7, 3) := by decide +kernel
theorem dL_law_3000 : decode cL_law 3000 = .ok (.iconst 1, 1) := by decide +kernel
theorem dL_law_3001 : decode cL_law 3001 = .ok (.goto 4, 3) := by decide +kernel
theorem dL_law_3004 : decode cL_law 3004 = .ok (.iconst 0, 1) := by decide +kernel
theorem dL_law_3005 : decode cL_law 3005 = .ok (.iadd, 1) := by decide +kernel
theorem dL_law_3006 : decode cL_law 3006 = .ok (.istore 51, 2) := by decide +kernel
theorem dL_law_3008 : decode cL_law 3008 = .ok (.aload 6, 2) := by decide +kernel
theorem dL_law_3010 : decode cL_law 3010 = .ok (.iload 52, 2) := by decide +kernel
theorem dL_law_3012 : decode cL_law 3012 = .ok (.dup2, 1) := by decide +kernel
theorem dL_law_3013 : decode cL_law 3013 = .ok (.iaload, 1) := by decide +kernel
theorem dL_law_3014 : decode cL_law 3014 = .ok (.iload 53, 2) := by decide +kernel
theorem dL_law_3016 : decode cL_law 3016 = .ok (.ifCond .eq 9, 3) := by decide +kernel
theorem dL_law_3019 : decode cL_law 3019 = .ok (.sipush 128, 3) := by decide +kernel
theorem dL_law_3022 : decode cL_law 3022 = .ok (.goto 5, 3) := by decide +kernel
theorem dL_law_3025 : decode cL_law 3025 = .ok (.bipush 64, 2) := by decide +kernel
theorem dL_law_3027 : decode cL_law 3027 = .ok (.iadd, 1) := by decide +kernel
theorem dL_law_3028 : decode cL_law 3028 = .ok (.iastore, 1) := by decide +kernel
theorem dL_law_3029 : decode cL_law 3029 = .ok (.iinc 52 1, 3) := by decide +kernel
theorem dL_law_3032 : decode cL_law 3032 = .ok (.goto (-114), 3) := by decide +kernel
theorem dL_law_3035 : decode cL_law 3035 = .ok (.iload 18, 2) := by decide +kernel
theorem dL_law_3037 : decode cL_law 3037 = .ok (.aload_n 1, 1) := by decide +kernel
theorem dL_law_3038 : decode cL_law 3038 = .ok (.iload 15, 2) := by decide +kernel
theorem dL_law_3040 : decode cL_law 3040 = .ok (.iload 45, 2) := by decide +kernel
theorem dL_law_3042 : decode cL_law 3042 = .ok (.iload 49, 2) := by decide +kernel
theorem dL_law_3044 : decode cL_law 3044 = .ok (.invokestatic 188, 3) := by decide +kernel
theorem dL_law_3047 : decode cL_law 3047 = .ok (.iload 51, 2) := by decide +kernel
theorem dL_law_3049 : decode cL_law 3049 = .ok (.if_icmp .ne 7, 3) := by decide +kernel
theorem dL_law_3052 : decode cL_law 3052 = .ok (.iconst 1, 1) := by decide +kernel
theorem dL_law_3053 : decode cL_law 3053 = .ok (.goto 4, 3) := by decide +kernel
theorem dL_law_3056 : decode cL_law 3056 = .ok (.iconst 0, 1) := by decide +kernel
theorem dL_law_3057 : decode cL_law 3057 = .ok (.iand, 1) := by decide +kernel
theorem dL_law_3058 : decode cL_law 3058 = .ok (.istore 18, 2) := by decide +kernel
theorem dL_law_3060 : decode cL_law 3060 = .ok (.aload 11, 2) := by decide +kernel
theorem dL_law_3062 : decode cL_law 3062 = .ok (.iload 46, 2) := by decide +kernel
theorem dL_law_3064 : decode cL_law 3064 = .ok (.dup2, 1) := by decide +kernel
theorem dL_law_3065 : decode cL_law 3065 = .ok (.iaload, 1) := by decide +kernel
theorem dL_law_3066 : decode cL_law 3066 = .ok (.bipush 32, 2) := by decide +kernel
theorem dL_law_3068 : decode cL_law 3068 = .ok (.iadd, 1) := by decide +kernel
theorem dL_law_3069 : decode cL_law 3069 = .ok (.iastore, 1) := by decide +kernel
theorem dL_law_3070 : decode cL_law 3070 = .ok (.iinc 48 1, 3) := by decide +kernel
theorem dL_law_3073 : decode cL_law 3073 = .ok (.goto (-243), 3) := by decide +kernel
theorem dL_law_3076 : decode cL_law 3076 = .ok (.goto 212, 3) := by decide +kernel
theorem dL_law_3079 : decode cL_law 3079 = .ok (.iload 14, 2) := by decide +kernel
theorem dL_law_3081 : decode cL_law 3081 = .ok (.iconst 3, 1) := by decide +kernel
theorem dL_law_3082 : decode cL_law 3082 = .ok (.ishr, 1) := by decide +kernel
theorem dL_law_3083 : decode cL_law 3083 = .ok (.bipush 7, 2) := by decide +kernel
theorem dL_law_3085 : decode cL_law 3085 = .ok (.iand, 1) := by decide +kernel
theorem dL_law_3086 : decode cL_law 3086 = .ok (.istore 48, 2) := by decide +kernel
theorem dL_law_3088 : decode cL_law 3088 = .ok (.iconst 1, 1) := by decide +kernel
theorem dL_law_3089 : decode cL_law 3089 = .ok (.iload 14, 2) := by decide +kernel
theorem dL_law_3091 : decode cL_law 3091 = .ok (.bipush 6, 2) := by decide +kernel
theorem dL_law_3093 : decode cL_law 3093 = .ok (.ishr, 1) := by decide +kernel
theorem dL_law_3094 : decode cL_law 3094 = .ok (.iload 48, 2) := by decide +kernel
theorem dL_law_3096 : decode cL_law 3096 = .ok (.iconst 4, 1) := by decide +kernel
theorem dL_law_3097 : decode cL_law 3097 = .ok (.if_icmp .ge 8, 3) := by decide +kernel
theorem dL_law_3100 : decode cL_law 3100 = .ok (.bipush 70, 2) := by decide +kernel
theorem dL_law_3102 : decode cL_law 3102 = .ok (.goto 19, 3) := by decide +kernel
theorem dL_law_3105 : decode cL_law 3105 = .ok (.iload 48, 2) := by decide +kernel
theorem dL_law_3107 : decode cL_law 3107 = .ok (.bipush 7, 2) := by decide +kernel
theorem dL_law_3109 : decode cL_law 3109 = .ok (.if_icmp .ge 9, 3) := by decide +kernel
theorem dL_law_3112 : decode cL_law 3112 = .ok (.sipush 400, 3) := by decide +kernel
theorem dL_law_3115 : decode cL_law 3115 = .ok (.goto 6, 3) := by decide +kernel
theorem dL_law_3118 : decode cL_law 3118 = .ok (.sipush 30000, 3) := by decide +kernel
theorem dL_law_3121 : decode cL_law 3121 = .ok (.invokestatic 124, 3) := by decide +kernel
theorem dL_law_3124 : decode cL_law 3124 = .ok (.iadd, 1) := by decide +kernel
theorem dL_law_3125 : decode cL_law 3125 = .ok (.istore 49, 2) := by decide +kernel
theorem dL_law_3127 : decode cL_law 3127 = .ok (.aload_n 2, 1) := by decide +kernel
theorem dL_law_3128 : decode cL_law 3128 = .ok (.iconst 0, 1) := by decide +kernel
theorem dL_law_3129 : decode cL_law 3129 = .ok (.iaload, 1) := by decide +kernel
theorem dL_law_3130 : decode cL_law 3130 = .ok (.iload 49, 2) := by decide +kernel
theorem dL_law_3132 : decode cL_law 3132 = .ok (.iadd, 1) := by decide +kernel
theorem dL_law_3133 : decode cL_law 3133 = .ok (.ldc 190, 2) := by decide +kernel
theorem dL_law_3135 : decode cL_law 3135 = .ok (.if_icmp .le 6, 3) := by decide +kernel
theorem dL_law_3138 : decode cL_law 3138 = .ok (.goto 150, 3) := by decide +kernel
theorem dL_law_3141 : decode cL_law 3141 = .ok (.aload_n 2, 1) := by decide +kernel
theorem dL_law_3142 : decode cL_law 3142 = .ok (.iconst 0, 1) := by decide +kernel
theorem dL_law_3143 : decode cL_law 3143 = .ok (.iaload, 1) := by decide +kernel
theorem dL_law_3144 : decode cL_law 3144 = .ok (.iload 49, 2) := by decide +kernel
theorem dL_law_3146 : decode cL_law 3146 = .ok (.iadd, 1) := by decide +kernel
theorem dL_law_3147 : decode cL_law 3147 = .ok (.istore 50, 2) := by decide +kernel
theorem dL_law_3149 : decode cL_law 3149 = .ok (.aload_n 2, 1) := by decide +kernel
theorem dL_law_3150 : decode cL_law 3150 = .ok (.iconst 0, 1) := by decide +kernel
theorem dL_law_3151 : decode cL_law 3151 = .ok (.iaload, 1) := by decide +kernel
theorem dL_law_3152 : decode cL_law 3152 = .ok (.bipush 60, 2) := by decide +kernel
theorem dL_law_3154 : decode cL_law 3154 = .ok (.idiv, 1) := by decide +kernel
theorem dL_law_3155 : decode cL_law 3155 = .ok (.bipush 60, 2) := by decide +kernel
theorem dL_law_3157 : decode cL_law 3157 = .ok (.imul, 1) := by decide +kernel
theorem dL_law_3158 : decode cL_law 3158 = .ok (.bipush 60, 2) := by decide +kernel
theorem dL_law_3160 : decode cL_law 3160 = .ok (.iadd, 1) := by decide +kernel
theorem dL_law_3161 : decode cL_law 3161 = .ok (.istore 51, 2) := by decide +kernel
theorem dL_law_3163 : decode cL_law 3163 = .ok (.iload 51, 2) := by decide +kernel
theorem dL_law_3165 : decode cL_law 3165 = .ok (.iload 50, 2) := by decide +kernel
theorem dL_law_3167 : decode cL_law 3167 = .ok (.if_icmp .gt 98, 3) := by decide +kernel
theorem dL_law_3170 : decode cL_law 3170 = .ok (.aload_n 2, 1) := by decide +kernel
theorem dL_law_3171 : decode cL_law 3171 = .ok (.iconst 0, 1) := by decide +kernel
theorem dL_law_3172 : decode cL_law 3172 = .ok (.iload 51, 2) := by decide +kernel
theorem dL_law_3174 : decode cL_law 3174 = .ok (.iastore, 1) := by decide +kernel
theorem dL_law_3175 : decode cL_law 3175 = .ok (.iconst 0, 1) := by decide +kernel
theorem dL_law_3176 : decode cL_law 3176 = .ok (.istore 52, 2) := by decide +kernel
theorem dL_law_3178 : decode cL_law 3178 = .ok (.iload 52, 2) := by decide +kernel
theorem dL_law_3180 : decode cL_law 3180 = .ok (.aload_n 2, 1) := by decide +kernel
theorem dL_law_3181 : decode cL_law 3181 = .ok (.iconst 1, 1) := by decide +kernel
theorem dL_law_3182 : decode cL_law 3182 = .ok (.iaload, 1) := by decide +kernel
theorem dL_law_3183 : decode cL_law 3183 = .ok (.if_icmp .ge 31, 3) := by decide +kernel
theorem dL_law_3186 : decode cL_law 3186 = .ok (.aload_n 3, 1) := by decide +kernel
theorem dL_law_3187 : decode cL_law 3187 = .ok (.bipush 8, 2) := by decide +kernel
theorem dL_law_3189 : decode cL_law 3189 = .ok (.iload 52, 2) := by decide +kernel
theorem dL_law_3191 : decode cL_law 3191 = .ok (.imul, 1) := by decide +kernel
theorem dL_law_3192 : decode cL_law 3192 = .ok (.iconst 3, 1) := by decide +kernel
theorem dL_law_3193 : decode cL_law 3193 = .ok (.iadd, 1) := by decide +kernel
theorem dL_law_3194 : decode cL_law 3194 = .ok (.iaload, 1) := by decide +kernel
theorem dL_law_3195 : decode cL_law 3195 = .ok (.iconst (-1), 1) := by decide +kernel
theorem dL_law_3196 : decode cL_law 3196 = .ok (.if_icmp .eq 12, 3) := by decide +kernel
theorem dL_law_3199 : decode cL_law 3199 = .ok (.iload 52, 2) := by decide +kernel
theorem dL_law_3201 : decode cL_law 3201 = .ok (.aload_n 3, 1) := by decide +kernel
theorem dL_law_3202 : decode cL_law 3202 = .ok (.aload 4, 2) := by decide +kernel
theorem dL_law_3204 : decode cL_law 3204 = .ok (.aload_n 2, 1) := by decide +kernel
theorem dL_law_3205 : decode cL_law 3205 = .ok (.invokestatic 176, 3) := by decide +kernel
theorem dL_law_3208 : decode cL_law 3208 = .ok (.iinc 52 1, 3) := by decide +kernel
theorem dL_law_3211 : decode cL_law 3211 = .ok (.goto (-33), 3) := by decide +kernel
theorem dL_law_3214 : decode cL_law 3214 = .ok (.iconst 0, 1) := by decide +kernel
theorem dL_law_3215 : decode cL_law 3215 = .ok (.istore 52, 2) := by decide +kernel
theorem dL_law_3217 : decode cL_law 3217 = .ok (.iload 52, 2) := by decide +kernel
theorem dL_law_3219 : decode cL_law 3219 = .ok (.bipush 36, 2) := by decide +kernel
theorem dL_law_3221 : decode cL_law 3221 = .ok (.if_icmp .ge 38, 3) := by decide +kernel
theorem dL_law_3224 : decode cL_law 3224 = .ok (.aload 4, 2) := by decide +kernel
theorem dL_law_3226 : decode cL_law 3226 = .ok (.iload 52, 2) := by decide +kernel
theorem dL_law_3228 : decode cL_law 3228 = .ok (.iaload, 1) := by decide +kernel
theorem dL_law_3229 : decode cL_law 3229 = .ok (.iconst (-1), 1) := by decide +kernel
theorem dL_law_3230 : decode cL_law 3230 = .ok (.if_icmp .eq 23, 3) := by decide +kernel
theorem dL_law_3233 : decode cL_law 3233 = .ok (.aload 4, 2) := by decide +kernel
theorem dL_law_3235 : decode cL_law 3235 = .ok (.iload 52, 2) := by decide +kernel
theorem dL_law_3237 : decode cL_law 3237 = .ok (.iaload, 1) := by decide +kernel
theorem dL_law_3238 : decode cL_law 3238 = .ok (.sipush 180, 3) := by decide +kernel
theorem dL_law_3241 : decode cL_law 3241 = .ok (.iadd, 1) := by decide +kernel
theorem dL_law_3242 : decode cL_law 3242 = .ok (.iload 51, 2) := by decide +kernel
theorem dL_law_3244 : decode cL_law 3244 = .ok (.if_icmp .gt 9, 3) := by decide +kernel
theorem dL_law_3247 : decode cL_law 3247 = .ok (.aload 4, 2) := by decide +kernel
theorem dL_law_3249 : decode cL_law 3249 = .ok (.iload 52, 2) := by decide +kernel
theorem dL_law_3251 : decode cL_law 3251 = .ok (.iconst (-1), 1) := by decide +kernel
theorem dL_law_3252 : decode cL_law 3252 = .ok (.iastore, 1) := by decide +kernel
theorem dL_law_3253 : decode cL_law 3253 = .ok (.iinc 52 1, 3) := by decide +kernel
theorem dL_law_3256 : decode cL_law 3256 = .ok (.goto (-39), 3) := by decide +kernel
theorem dL_law_3259 : decode cL_law 3259 = .ok (.iinc 51 60, 3) := by decide +kernel
theorem dL_law_3262 : decode cL_law 3262 = .ok (.goto (-99), 3) := by decide +kernel
theorem dL_law_3265 : decode cL_law 3265 = .ok (.aload_n 2, 1) := by decide +kernel
theorem dL_law_3266 : decode cL_law 3266 = .ok (.iconst 0, 1) := by decide +kernel
theorem dL_law_3267 : decode cL_law 3267 = .ok (.iload 50, 2) := by decide +kernel
theorem dL_law_3269 : decode cL_law 3269 = .ok (.iastore, 1) := by decide +kernel
theorem dL_law_3270 : decode cL_law 3270 = .ok (.aload_n 1, 1) := by decide +kernel
theorem dL_law_3271 : decode cL_law 3271 = .ok (.iload 49, 2) := by decide +kernel
theorem dL_law_3273 : decode cL_law 3273 = .ok (.invokestatic 191, 3) := by decide +kernel
theorem dL_law_3276 : decode cL_law 3276 = .ok (.iload 50, 2) := by decide +kernel
theorem dL_law_3278 : decode cL_law 3278 = .ok (.if_icmp .ne 7, 3) := by decide +kernel
theorem dL_law_3281 : decode cL_law 3281 = .ok (.iconst 1, 1) := by decide +kernel
theorem dL_law_3282 : decode cL_law 3282 = .ok (.goto 4, 3) := by decide +kernel
theorem dL_law_3285 : decode cL_law 3285 = .ok (.iconst 0, 1) := by decide +kernel
theorem dL_law_3286 : decode cL_law 3286 = .ok (.istore 18, 2) := by decide +kernel
theorem dL_law_3288 : decode cL_law 3288 = .ok (.iload 18, 2) := by decide +kernel
theorem dL_law_3290 : decode cL_law 3290 = .ok (.ifCond .eq 31, 3) := by decide +kernel
theorem dL_law_3293 : decode cL_law 3293 = .ok (.aload_n 1, 1) := by decide +kernel
theorem dL_law_3294 : decode cL_law 3294 = .ok (.iload 13, 2) := by decide +kernel
theorem dL_law_3296 : decode cL_law 3296 = .ok (.iload 14, 2) := by decide +kernel
theorem dL_law_3298 : decode cL_law 3298 = .ok (.iconst 2, 1) := by decide +kernel
theorem dL_law_3299 : decode cL_law 3299 = .ok (.ishr, 1) := by decide +kernel
theorem dL_law_3300 : decode cL_law 3300 = .ok (.ixor, 1) := by decide +kernel
theorem dL_law_3301 : decode cL_law 3301 = .ok (.aload_n 3, 1) := by decide +kernel
theorem dL_law_3302 : decode cL_law 3302 = .ok (.aload 4, 2) := by decide +kernel
theorem dL_law_3304 : decode cL_law 3304 = .ok (.aload 5, 2) := by decide +kernel
theorem dL_law_3306 : decode cL_law 3306 = .ok (.aload 6, 2) := by decide +kernel
theorem dL_law_3308 : decode cL_law 3308 = .ok (.aload 7, 2) := by decide +kernel
theorem dL_law_3310 : decode cL_law 3310 = .ok (.aload 9, 2) := by decide +kernel
theorem dL_law_3312 : decode cL_law 3312 = .ok (.aload 10, 2) := by decide +kernel
theorem dL_law_3314 : decode cL_law 3314 = .ok (.aload_n 2, 1) := by decide +kernel
theorem dL_law_3315 : decode cL_law 3315 = .ok (.invokestatic 193, 3) := by decide +kernel
theorem dL_law_3318 : decode cL_law 3318 = .ok (.ifCond .ne 5, 3) := by decide +kernel
theorem dL_law_3321 : decode cL_law 3321 = .ok (.iconst 0, 1) := by decide +kernel
theorem dL_law_3322 : decode cL_law 3322 = .ok (.ireturn, 1) := by decide +kernel
theorem dL_law_3323 : decode cL_law 3323 = .ok (.iinc 12 1, 3) := by decide +kernel
theorem dL_law_3326 : decode cL_law 3326 = .ok (.goto (-3178), 3) := by decide +kernel
theorem dL_law_3329 : decode cL_law 3329 = .ok (.aload_n 1, 1) := by decide +kernel
theorem dL_law_3330 : decode cL_law 3330 = .ok (.bipush 6, 2) := by decide +kernel
theorem dL_law_3332 : decode cL_law 3332 = .ok (.iconst 0, 1) := by decide +kernel
theorem dL_law_3333 : decode cL_law 3333 = .ok (.iconst 0, 1) := by decide +kernel
theorem dL_law_3334 : decode cL_law 3334 = .ok (.invokestatic 184, 3) := by decide +kernel
theorem dL_law_3337 : decode cL_law 3337 = .ok (.sipush (-7100), 3) := by decide +kernel
theorem dL_law_3340 : decode cL_law 3340 = .ok (.if_icmp .ne 20, 3) := by decide +kernel
theorem dL_law_3343 : decode cL_law 3343 = .ok (.aload_n 1, 1) := by decide +kernel
theorem dL_law_3344 : decode cL_law 3344 = .ok (.bipush 8, 2) := by decide +kernel
theorem dL_law_3346 : decode cL_law 3346 = .ok (.iconst 0, 1) := by decide +kernel
theorem dL_law_3347 : decode cL_law 3347 = .ok (.invokestatic 144, 3) := by decide +kernel
theorem dL_law_3350 : decode cL_law 3350 = .ok (.sipush (-7100), 3) := by decide +kernel
theorem dL_law_3353 : decode cL_law 3353 = .ok (.if_icmp .ne 7, 3) := by decide +kernel
theorem dL_law_3356 : decode cL_law 3356 = .ok (.iconst 1, 1) := by decide +kernel
theorem dL_law_3357 : decode cL_law 3357 = .ok (.goto 4, 3) := by decide +kernel
theorem dL_law_3360 : decode cL_law 3360 = .ok (.iconst 0, 1) := by decide +kernel
theorem dL_law_3361 : decode cL_law 3361 = .ok (.ireturn, 1) := by decide +kernel
end
section
/-! THE ENGINE: heaps by roles. A role (r : rb_R) names a cell; 'ad' says at which address it lies. A world G holds what the cells hold, in terms of roles. -/
abbrev rb_R : Type := Nat × Nat × Nat
abbrev rb_V : Type := Int32 ⊕ (Option rb_R ⊕ Int64)
abbrev rbI (x : Int32) : rb_V := .inl x
abbrev rbO (o : Option rb_R) : rb_V := .inr (.inl o)
abbrev rbR (r : rb_R) : rb_V := .inr (.inl (some r))
abbrev rbL (x : Int64) : rb_V := .inr (.inr x)
def rb_c (ad : rb_R → Nat) (v : rb_V) : Value := match v with
  | .inl x => .int x
  | .inr (.inl o) => va_rf (o.map ad)
  | .inr (.inr x) => .long x
def rb_cat (v : rb_V) : Nat := match v with
  | .inr (.inr _) => 2
  | _ => 1
theorem rb_cat_c (ad : rb_R → Nat) (v : rb_V) : (rb_c ad v).category = rb_cat v := by
  rcases v with x | o | x
  · rfl
  · cases o <;> rfl
  · rfl
/-- domain, lengths of arrays, ints, references, longs -/
abbrev rb_G : Type := (rb_R → Prop) × (rb_R → Nat) × (rb_R → Nat → Int32) × (rb_R → Nat → Option rb_R) × (rb_R → Nat → Int64)
def gD (G : rb_G) : rb_R → Prop := G.1
def gN (G : rb_G) : rb_R → Nat := G.2.1
def gI (G : rb_G) : rb_R → Nat → Int32 := G.2.2.1
def gP (G : rb_G) : rb_R → Nat → Option rb_R := G.2.2.2.1
def gJ (G : rb_G) : rb_R → Nat → Int64 := G.2.2.2.2
def up2 {α : Type} (f : rb_R → Nat → α) (r : rb_R) (k : Nat) (v : α) : rb_R → Nat → α := fun r' k' => if r' = r ∧ k' = k then v else f r' k'
def sI (G : rb_G) (r : rb_R) (k : Nat) (v : Int32) : rb_G := (gD G, gN G, up2 (gI G) r k v, gP G, gJ G)
def sP (G : rb_G) (r : rb_R) (k : Nat) (v : Option rb_R) : rb_G := (gD G, gN G, gI G, up2 (gP G) r k v, gJ G)
def sJ (G : rb_G) (r : rb_R) (k : Nat) (v : Int64) : rb_G := (gD G, gN G, gI G, gP G, up2 (gJ G) r k v)
/-- a new cell of length n, blank -/
def sN (G : rb_G) (r : rb_R) (n : Nat) : rb_G := (fun x => x = r ∨ gD G x, fun x => if x = r then n else gN G x, fun x k => if x = r then 0 else gI G x k, fun x k => if x = r then none else gP G x k, fun x k => if x = r then 0 else gJ G x k)
/-- a role whose cell is of no concern -/
def sO (G : rb_G) (r : rb_R) : rb_G := (fun x => x = r ∨ gD G x, gN G, gI G, gP G, gJ G)
theorem up2_s {α : Type} (f : rb_R → Nat → α) (r : rb_R) (k : Nat) (v : α) : up2 f r k v r k = v := by simp [up2]
theorem up2_n {α : Type} (f : rb_R → Nat → α) (r : rb_R) (k : Nat) (v : α) {r' : rb_R} {k' : Nat} (h : ¬ (r' = r ∧ k' = k)) : up2 f r k v r' k' = f r' k' := by simp [up2, h]
/-- the kind of a role by its family: a class of vwCl (below 10), 10 int[], 11 boolean[], 12 long[], 13 Object[], 14 Network[], 15 Account[], 20 no concern -/
def rb_k (f : Nat) : Nat := [8, 10, 14, 15, 0, 6, 3, 10, 1, 7, 2, 4, 5, 13, 10, 11, 9, 12].getD f 20
def rb_lay (k : Nat) : List Bool := [[false, true, false], [true, false, false], [false, false, false, false, false, false, false], [true], [false, false, false, false], [false, false, true, false, false], [true, false, false, false, false, false, false], [false, false, false, false, false, false, false, false, false, false, false], [true, true, true, true, true, true, false], [false, false, true, true, true, true, true, false, true, true, true, true, true, true, true, false, true, true, true, true, true, true, true, true, true, true, true, true, false, false, true, true, true, true, true, true, true, true, true]].getD k []
def rb_vals (cv : rb_V → Value) : List Bool → Nat → (Nat → Int32) → (Nat → Option rb_R) → List Value
  | [], _, _, _ => []
  | b :: t, k, I, P => (if b = true then cv (rbO (P k)) else cv (rbI (I k))) :: rb_vals cv t (k + 1) I P
theorem rb_vals_get (cv : rb_V → Value) (I : Nat → Int32) (P : Nat → Option rb_R) : ∀ (l : List Bool) (k0 k : Nat), (rb_vals cv l k0 I P)[k]? = (l[k]?).map (fun b => if b = true then cv (rbO (P (k0 + k))) else cv (rbI (I (k0 + k)))) := by
  intro l
  induction l with
  | nil => intro k0 k; simp [rb_vals]
  | cons b t ih =>
    intro k0 k
    cases k with
    | zero => simp [rb_vals]
    | succ k =>
      simp only [rb_vals, List.getElem?_cons_succ]
      rw [ih (k0 + 1) k, show k0 + 1 + k = k0 + (k + 1) by omega]
theorem rb_vals_len (cv : rb_V → Value) (I : Nat → Int32) (P : Nat → Option rb_R) : ∀ (l : List Bool) (k0 : Nat), (rb_vals cv l k0 I P).length = l.length := by
  intro l
  induction l with
  | nil => intro k0; rfl
  | cons b t ih => intro k0; simp [rb_vals, ih]
theorem rb_vals_setI (cv : rb_V → Value) (I I' : Nat → Int32) (P : Nat → Option rb_R) (l : List Bool) (k : Nat) (v : Int32) (hb : l[k]? = some false) (h1 : I' k = v) (h2 : ∀ j, j ≠ k → I' j = I j) : (rb_vals cv l 0 I P).set k (cv (rbI v)) = rb_vals cv l 0 I' P := by
  apply List.ext_getElem?
  intro j
  have hlt : k < (rb_vals cv l 0 I P).length := by rw [rb_vals_len]; exact (List.getElem?_eq_some_iff.mp hb).1
  by_cases hj : j = k
  · subst hj
    rw [List.getElem?_set_self hlt, rb_vals_get, hb]
    simp [h1]
  · rw [List.getElem?_set_ne (Ne.symm hj), rb_vals_get, rb_vals_get]
    simp only [Nat.zero_add]
    rw [h2 j hj]
theorem rb_vals_setP (cv : rb_V → Value) (I : Nat → Int32) (P P' : Nat → Option rb_R) (l : List Bool) (k : Nat) (v : Option rb_R) (hb : l[k]? = some true) (h1 : P' k = v) (h2 : ∀ j, j ≠ k → P' j = P j) : (rb_vals cv l 0 I P).set k (cv (rbO v)) = rb_vals cv l 0 I P' := by
  apply List.ext_getElem?
  intro j
  have hlt : k < (rb_vals cv l 0 I P).length := by rw [rb_vals_len]; exact (List.getElem?_eq_some_iff.mp hb).1
  by_cases hj : j = k
  · subst hj
    rw [List.getElem?_set_self hlt, rb_vals_get, hb]
    simp [h1]
  · rw [List.getElem?_set_ne (Ne.symm hj), rb_vals_get, rb_vals_get]
    simp only [Nat.zero_add]
    rw [h2 j hj]
/-- what lies at a role's address -/
def rb_e (ad : rb_R → Nat) (cA : Nat → ClassId) (G : rb_G) (r : rb_R) : va_E :=
  if rb_k r.1 < 10 then .inr (rb_k r.1, rb_vals (rb_c ad) (rb_lay (rb_k r.1)) 0 (gI G r) (gP G r))
  else if rb_k r.1 < 12 then .inl (cA (rb_k r.1), gN G r, .inl (gI G r))
  else if rb_k r.1 = 12 then .inl (cA 12, gN G r, .inr (.inl (gJ G r)))
  else .inl (cA (rb_k r.1), gN G r, .inr (.inr (.inr (.inr (fun j => (gP G r j).map ad)))))
/-- the classes' ids and slots, the arrays' classes, the address of ArrayList's empty row, the script's address, the address of Object[]'s class object -/
abbrev rb_X : Type := va_G × (Nat → ClassId) × Nat × Nat × Nat
def rb_tys (cA : Nat → ClassId) : List (ClassId × FieldType) := [(cA 10, .int), (cA 13, .object "java/lang/Object"), (cA 14, .object RX5), (cA 15, .object RX0)]
def rb_P (X : rb_X) (ad : rb_R → Nat) (A : Nat → Prop) (G : rb_G) (H : Heap) : Prop :=
  (∀ r, gD G r → rb_k r.1 < 20 → A (ad r) ∧ va_at X.1 vwCl (ad r, rb_e ad X.2.1 G r) H) ∧
  (∀ r r', gD G r → gD G r' → rb_k r.1 < 20 → rb_k r'.1 < 20 → ad r = ad r' → r = r') ∧
  (∀ r k r', gD G r → gP G r k = some r' → gD G r') ∧ ad (19, 0, 0) = X.2.2.1 ∧ ad (18, 0, 0) = X.2.2.2.1 ∧ ad (21, 0, 0) = X.2.2.2.2
def rb_nx (G : rb_G) (ad : rb_R → Nat) (G' : rb_G) (ad' : rb_R → Nat) : Prop := ∀ r, gD G r → gD G' r ∧ ad' r = ad r
theorem rb_nx.rf {G : rb_G} {ad : rb_R → Nat} : rb_nx G ad G ad := fun _ h => ⟨h, rfl⟩
theorem rb_nx.tr {G1 G2 G3 : rb_G} {a1 a2 a3 : rb_R → Nat} (h : rb_nx G1 a1 G2 a2) (h' : rb_nx G2 a2 G3 a3) : rb_nx G1 a1 G3 a3 := fun r hr => ⟨(h' r (h r hr).1).1, ((h' r (h r hr).1).2).trans (h r hr).2⟩
def rb_ok (G : rb_G) (v : rb_V) : Prop := ∀ r, v = rbR r → gD G r
theorem rb_ok_i (G : rb_G) (x : Int32) : rb_ok G (rbI x) := fun r h => by cases h
theorem rb_ok_l (G : rb_G) (x : Int64) : rb_ok G (rbL x) := fun r h => by cases h
theorem rb_ok_n (G : rb_G) : rb_ok G (rbO none) := fun r h => by cases h
theorem rb_ok_r {G : rb_G} {r : rb_R} (h : gD G r) : rb_ok G (rbR r) := fun r' h' => by cases h'; exact h
theorem rb_ok.mono {G G' : rb_G} {v : rb_V} (h : rb_ok G v) (hm : ∀ r, gD G r → gD G' r) : rb_ok G' v := fun r e => hm r (h r e)
theorem rb_c_nx {G G' : rb_G} {ad ad' : rb_R → Nat} (hn : rb_nx G ad G' ad') {v : rb_V} (h : rb_ok G v) : rb_c ad' v = rb_c ad v := by
  rcases v with x | o | x
  · rfl
  · cases o with
    | none => rfl
    | some r => show Value.ref (ad' r) = Value.ref (ad r); rw [(hn r (h r rfl)).2]
  · rfl
def rb_okL (G : rb_G) (st : List rb_V) : Prop := ∀ v ∈ st, rb_ok G v
def rb_okO (G : rb_G) (Lv : List (Option rb_V)) : Prop := ∀ v, some v ∈ Lv → rb_ok G v
theorem rb_okL.mono {G G' : rb_G} {st : List rb_V} (h : rb_okL G st) (hm : ∀ r, gD G r → gD G' r) : rb_okL G' st := fun v hv => (h v hv).mono hm
theorem rb_okO.mono {G G' : rb_G} {Lv : List (Option rb_V)} (h : rb_okO G Lv) (hm : ∀ r, gD G r → gD G' r) : rb_okO G' Lv := fun v hv => (h v hv).mono hm
theorem rb_okL.cons {G : rb_G} {v : rb_V} {st : List rb_V} (h : rb_okL G st) (hv : rb_ok G v) : rb_okL G (v :: st) := List.forall_mem_cons.mpr ⟨hv, h⟩
theorem rb_okL.tl {G : rb_G} {v : rb_V} {st : List rb_V} (h : rb_okL G (v :: st)) : rb_okL G st := (List.forall_mem_cons.mp h).2
theorem rb_okL.hd {G : rb_G} {v : rb_V} {st : List rb_V} (h : rb_okL G (v :: st)) : rb_ok G v := (List.forall_mem_cons.mp h).1
theorem rb_map_nx {G G' : rb_G} {ad ad' : rb_R → Nat} (hn : rb_nx G ad G' ad') {st : List rb_V} (h : rb_okL G st) : st.map (rb_c ad') = st.map (rb_c ad) := List.map_congr_left fun v hv => rb_c_nx hn (h v hv)
/-- the locals as an association list -/
def rb_al (ad : rb_R → Nat) : Nat → List (Option rb_V) → List (Nat × Value)
  | _, [] => []
  | i, none :: t => rb_al ad (i + 1) t
  | i, some v :: t => (i, rb_c ad v) :: rb_al ad (i + 1) t
theorem rb_al_mem (ad : rb_R → Nat) : ∀ (Lv : List (Option rb_V)) (i0 : Nat) (q : Nat × Value), q ∈ rb_al ad i0 Lv ↔ ∃ (k : Nat) (v : rb_V), Lv[k]? = some (some v) ∧ q = (i0 + k, rb_c ad v) := by
  intro Lv
  induction Lv with
  | nil => intro i0 q; simp [rb_al]
  | cons o t ih =>
    intro i0 q
    have ih' := ih (i0 + 1) q
    have key : (∃ (k : Nat) (v : rb_V), t[k]? = some (some v) ∧ q = (i0 + 1 + k, rb_c ad v)) ↔ ∃ (k : Nat) (v : rb_V), 0 < k ∧ (o :: t)[k]? = some (some v) ∧ q = (i0 + k, rb_c ad v) := by
      constructor
      · rintro ⟨k, v, h1, h2⟩
        exact ⟨k + 1, v, by omega, by simpa using h1, by rw [h2]; congr 1; omega⟩
      · rintro ⟨k, v, h0, h1, h2⟩
        obtain ⟨j, rfl⟩ : ∃ j, k = j + 1 := ⟨k - 1, by omega⟩
        exact ⟨j, v, by simpa using h1, by rw [h2]; congr 1; omega⟩
    cases o with
    | none =>
      simp only [rb_al]
      rw [ih', key]
      constructor
      · rintro ⟨k, v, -, h1, h2⟩; exact ⟨k, v, h1, h2⟩
      · rintro ⟨k, v, h1, h2⟩
        refine ⟨k, v, ?_, h1, h2⟩
        cases k with
        | zero => simp at h1
        | succ k => omega
    | some w =>
      simp only [rb_al, List.mem_cons]
      rw [ih', key]
      constructor
      · rintro (h | ⟨k, v, -, h1, h2⟩)
        · exact ⟨0, w, by simp, by rw [h]; simp⟩
        · exact ⟨k, v, h1, h2⟩
      · rintro ⟨k, v, h1, h2⟩
        cases k with
        | zero => simp at h1; subst h1; exact Or.inl (by rw [h2]; simp)
        | succ k => exact Or.inr ⟨k + 1, v, by omega, h1, h2⟩
def rb_ls (ad : rb_R → Nat) (ls : Array Slot) (Lv : List (Option rb_V)) : Prop := lv_has ls Lv.length (rb_al ad 0 Lv)
theorem rb_ls.get {ad : rb_R → Nat} {ls : Array Slot} {Lv : List (Option rb_V)} (h : rb_ls ad ls Lv) {i : Nat} {v : rb_V} (hi : Lv[i]? = some (some v)) : ls[i]? = some (.val (rb_c ad v)) := by
  have := h.2.2 (i, rb_c ad v) ((rb_al_mem ad Lv 0 _).mpr ⟨i, v, hi, by rw [Nat.zero_add]⟩)
  exact this
/-- fewer locals known -/
theorem rb_ls.weak {ad : rb_R → Nat} {ls : Array Slot} {Lv Lv' : List (Option rb_V)} (h : rb_ls ad ls Lv) (hl : Lv'.length = Lv.length) (hs : ∀ (i : Nat) (v : rb_V), Lv'[i]? = some (some v) → Lv[i]? = some (some v)) : rb_ls ad ls Lv' := by
  refine ⟨by rw [h.1, hl], h.2.1, fun q hq => ?_⟩
  obtain ⟨k, v, h1, rfl⟩ := (rb_al_mem ad Lv' 0 q).mp hq
  exact h.2.2 _ ((rb_al_mem ad Lv 0 _).mpr ⟨k, v, hs k v h1, rfl⟩)
/-- what a store leaves -/
theorem rb_ls.store {ad : rb_R → Nat} {ls' : Array Slot} {Lv : List (Option rb_V)} {i : Nat} {v : rb_V} (hi : i < Lv.length)
    (h : lv_has ls' Lv.length ((i, rb_c ad v) :: (rb_al ad 0 Lv).filter (fun q => !(q.1 == i) && !(q.1 + 1 == i && q.2.category == 2)))) (hc : ∀ w, some w ∈ Lv → rb_cat w = 1) : rb_ls ad ls' (Lv.set i (some v)) := by
  refine ⟨by rw [h.1, List.length_set], h.2.1, fun q hq => ?_⟩
  obtain ⟨k, w, h1, rfl⟩ := (rb_al_mem ad _ 0 q).mp hq
  apply h.2.2
  by_cases hk : k = i
  · subst hk
    rw [List.getElem?_set_self hi] at h1
    cases h1
    rw [Nat.zero_add]
    exact List.mem_cons_self
  · rw [List.getElem?_set_ne (Ne.symm hk)] at h1
    refine List.mem_cons_of_mem _ (List.mem_filter.mpr ⟨(rb_al_mem ad Lv 0 _).mpr ⟨k, w, h1, rfl⟩, ?_⟩)
    have hcw : (rb_c ad w).category = 1 := by rw [rb_cat_c]; exact hc w (List.mem_of_getElem? h1)
    simp [hcw, hk]
/-- the words of the tables that stay -/
def TS : List Cond := lw_tbl.filter goodWord
theorem ts_mem {w : Cond} (i : Nat) (h : lw_tbl[i]? = some w) (hg : goodWord w = true) : w ∈ TS := List.mem_filter.mpr ⟨List.mem_of_getElem? h, hg⟩
theorem ts_good : GoodIn TS TS := fun w hw => ⟨hw, good_of_word (List.mem_filter.mp hw).2⟩
theorem ts_code {c : Cond} (h : c ∈ TS) : GoodIn TS (c :: TS) := fun w hw => (List.mem_cons.mp hw).elim (fun e => by rw [e]; exact ts_good c h) (fun h => ts_good w h)
def rb_cst : List (String × String) := [("RoamBooks$Agreement", "java/lang/Object"), ("RoamBooks$Subscriber", "java/lang/Object"), ("RoamBooks$Call", "java/lang/Object"), ("RoamBooks$CallRecord", "java/lang/Object"), ("java/lang/IndexOutOfBoundsException", "java/lang/IndexOutOfBoundsException"), ("java/lang/IllegalArgumentException", "java/lang/IllegalArgumentException"), ("java/lang/IllegalStateException", "java/lang/IllegalStateException")]
def rb_ncs : List (String × String) := [("java/lang/IllegalArgumentException", "java/lang/IndexOutOfBoundsException"), ("java/lang/IllegalStateException", "java/lang/IndexOutOfBoundsException"), ("java/lang/IllegalStateException", "java/lang/IllegalArgumentException")]
def rb_strs : List (Nat × String) := [(281, "no such place"), (273, "an argument is out of range"), (279, "no such network"), (275, "both are the same"), (277, "there are as many as there may be"), (283, "no such subscriber"), (147, "it is attached to that network"), (196, "what is out of range"), (235, "no records are left to file"), (245, "no such file"), (264, "time ends before that")]
def rb_dcl : List MethodName := [⟨"java/lang/RuntimeException", "<init>", "(Ljava/lang/String;)V"⟩, ⟨"java/lang/Exception", "<init>", "(Ljava/lang/String;)V"⟩, ⟨"java/lang/Throwable", "<init>", "(Ljava/lang/String;)V"⟩]
/-- what the tables say, besides the words that stay -/
def rb_K1 (X : rb_X) (U : State) : Prop :=
  va_K X.1 vwCl (rb_tys X.2.1) U ∧ (∀ C ∈ ["java/lang/Object", RX5, RX0], va_AO C U) ∧ (∀ q ∈ rb_cst, va_Nw (.castable q.1 q.2) U) ∧ (∀ q ∈ rb_ncs, va_Nc q.1 q.2 U) ∧
  (∀ q ∈ rb_strs, ∃ a, vk_R RX7 q.1 q.2 a U) ∧ va_Nw (.methodLinkNest RX7 38 yX5_init RX7) U ∧ va_Nw (.methodLinkNest RX7 39 yX0_init RX7) U ∧ va_Mi "[Ljava/lang/Object;" X.2.2.2.2 U ∧ va_Dc U ∧ (∀ y ∈ rb_dcl, va_Nw (.declares y) U)
theorem rb_K1.warm {X : rb_X} {s U : State} (hW : s.WarmedH U.vm) (h : rb_K1 X s) : rb_K1 X U :=
  ⟨va_K.moved hW.alike h.1, fun C hC => va_AO.moved hW.alike (h.2.1 C hC), fun q hq => va_Nw.warmC hW (h.2.2.1 q hq), fun q hq => va_Nc.moved hW.alike (h.2.2.2.1 q hq), fun q hq => (h.2.2.2.2.1 q hq).imp fun _ h => vk_R.warm hW h,
   va_Nw.warmM hW h.2.2.2.2.2.1, va_Nw.warmM hW h.2.2.2.2.2.2.1, va_Mi.moved hW.alike h.2.2.2.2.2.2.2.1, va_Dc.moved hW.alike h.2.2.2.2.2.2.2.2.1, fun y hy => va_Nw.warmD hW (h.2.2.2.2.2.2.2.2.2 y hy)⟩
/-- what lies outside of the world -/
def rb_K2 (X : rb_X) (A : Nat → Prop) (U : State) (H : Heap) : Prop :=
  vx_Zq Bundle.tN "UNASSIGNED_STACK" Bundle.steD A U H ∧ vx_Zq Bundle.tN "SUPPRESSED_SENTINEL" Bundle.listD A U H ∧ va_Z "java/util/ArrayList" "DEFAULTCAPACITY_EMPTY_ELEMENTDATA" "[Ljava/lang/Object;" (.ref X.2.2.1) A U H ∧
  va_T (.object "java/lang/Object") X.2.2.1 0 (fun _ => .null) A U H ∧ ∃ (L : Nat) (xs : Nat → Int32), L ≤ 260 ∧ va_X X.2.2.2.1 L xs U H ∧ X.2.2.2.1 < H.size ∧ ¬ A X.2.2.2.1
theorem rb_K2.moved {X : rb_X} {A : Nat → Prop} {u U : State} {H H1 : Heap} (hvm : u.vm.Alike U.vm) (h : rb_K2 X A u H) (hz : H.size ≤ H1.size) (hq : ∀ a : Nat, a < H.size → ¬ A a → H1[a]? = H[a]?) : rb_K2 X A U H1 := by
  obtain ⟨h1, h2, h3, h4, L, xs, h5, h6, h7, h8⟩ := h
  exact ⟨vx_Zq.moved hvm (h1.kept hq), vx_Zq.moved hvm (h2.kept hq), va_Z.moved hvm (h3.kept hq), va_T.moved hvm (h4.kept hq), L, xs, h5, va_X.moved hvm (h6.kept (hq _ h7 h8)), Nat.lt_of_lt_of_le h7 hz, h8⟩
/-- the walk's constants -/
abbrev rb_F : Type := Program × Launch × Env × Room × State × MethodId × Array Value × List Frame × Method × Code × (State → Prop) × rb_X × (Nat → Prop) × (rb_R → Nat) × rb_G
def rb_W (Φ : rb_F) (cells slots : Nat) (pc : Nat) (Lv : List (Option rb_V)) (st : List rb_V) (G : rb_G) : Prop := match Φ with
  | (p, l, e, R, s, m, args, below, meth, c, Q, X, A, ad0, G0) => ∀ (ad : rb_R → Nat) (H : Heap) (locs : List Loc) (ls : Array Slot), rb_P X ad A G H → rb_nx G0 ad0 G ad → va_S A s.heap H locs → rb_ls ad ls Lv → rb_okL G st → rb_okO G Lv →
      W p l e R s m args below meth c H locs cells slots Q (F0 m pc ls (st.map (rb_c ad)))
/-- thrown over the method's frame: an exception of class E -/
def rb_Wx (Φ : rb_F) (cells slots : Nat) (pc : Nat) (Lv : List (Option rb_V)) (st : List rb_V) (G : rb_G) (E : String) : Prop := match Φ with
  | (p, l, e, R, s, m, args, below, meth, c, Q, X, A, ad0, G0) => ∀ (ad : rb_R → Nat) (H : Heap) (locs : List Loc) (ls : Array Slot) (q : Addr) (ce : Cell), rb_P X ad A G H → rb_nx G0 ad0 G ad → va_S A s.heap H locs → rb_ls ad ls Lv → rb_okL G st → rb_okO G Lv →
      H[q]? = some ce → ce.vm = .none → s.vm.findClass E = some ce.cls → vx_W p l e R s m args below meth c H locs cells slots Q (F0 m pc ls (st.map (rb_c ad))) q
/-- what holds in a body -/
def rb_C (Φ : rb_F) (own : String) (cc : ByteArray) (nL fr lo mc ms : Nat) : Prop := match Φ with
  | (p, l, _, R, s, m, args, _, meth, c, _, X, A, _, _) => p.tables.exec = Jvm.exec ∧ c.code = cc ∧ c.maxLocals = nL ∧ s.vm.findClass own = some m.cls ∧ (∀ w ∈ TS, w.before args s = true) ∧ meth.locks = false ∧
      R = { frames := fr, cells := mc, slots := ms, locals := lo } ∧ l.stackTraces = false ∧ rb_K1 X s ∧ rb_K2 X A s s.heap ∧ ∀ q, s.heap.size ≤ q → A q
/-- how a method may end -/
def rb_Q (X : rb_X) (A : Nat → Prop) (ad : rb_R → Nat) (G : rb_G) (Post : Option rb_V → rb_G → Prop) : Array Value → State → Outcome → State → Prop := fun _ st oc t =>
  (∃ (v : Option rb_V) (G' : rb_G) (ad' : rb_R → Nat), oc = .returned (v.map (rb_c ad')) ∧ Post v G' ∧ rb_nx G ad G' ad' ∧ (∀ w, v = some w → rb_ok G' w) ∧ rb_P X ad' A G' t.heap) ∧ va_F A st t
def rb_QX (X : rb_X) (A : Nat → Prop) (ad : rb_R → Nat) (G : rb_G) (PX : String → rb_G → Prop) : String → State → State → Prop := fun E st t =>
  (∃ (G' : rb_G) (ad' : rb_R → Nat), PX E G' ∧ rb_nx G ad G' ad' ∧ rb_P X ad' A G' t.heap) ∧ va_F A st t
def rb_In (X : rb_X) (A : Nat → Prop) (ad : rb_R → Nat) (av : List rb_V) (G : rb_G) (U : State) : Prop :=
  (∀ q, U.heap.size ≤ q → A q) ∧ rb_P X ad A G U.heap ∧ rb_K1 X U ∧ rb_K2 X A U U.heap ∧ rb_okL G av
/-- the contract of a method that may throw; of one that doesn't -/
def rb_M (l : Launch) (X : rb_X) (y : MethodName) (w : Cond) (fr lo mc ms : Nat) (av : List rb_V) (G : rb_G) (Post : Option rb_V → rb_G → Prop) (PX : String → rb_G → Prop) : Prop :=
  l.stackTraces = false → ∀ (A : Nat → Prop) (ad : rb_R → Nat), vx_Met l y (w :: TS) { frames := fr, cells := mc, slots := ms, locals := lo } (va_Pc (av.map (rb_c ad)) (rb_In X A ad av G)) (rb_Q X A ad G Post) (rb_QX X A ad G PX) mc ms A
def rb_N (l : Launch) (X : rb_X) (y : MethodName) (w : Cond) (fr lo mc ms : Nat) (av : List rb_V) (G : rb_G) (Post : Option rb_V → rb_G → Prop) : Prop :=
  l.stackTraces = false → ∀ (A : Nat → Prop) (ad : rb_R → Nat), Met l y (w :: TS) { frames := fr, cells := mc, slots := ms, locals := lo } (va_Pc (av.map (rb_c ad)) (rb_In X A ad av G)) (rb_Q X A ad G Post) mc ms A
theorem rb_N.m {l : Launch} {X : rb_X} {y : MethodName} {w : Cond} {fr lo mc ms : Nat} {av : List rb_V} {G : rb_G} {Post : Option rb_V → rb_G → Prop} (h : rb_N l X y w fr lo mc ms av G Post) : rb_M l X y w fr lo mc ms av G Post (fun _ _ => False) := by
  intro hl A ad p e h1 h2 h3 s m args below h4 h5 h6 h7
  obtain ⟨n, o, g1, g2, g3, g4, g5⟩ := h hl A ad p e h1 h2 h3 s m args below h4 h5 h6 h7
  exact ⟨n, o, g1, g2, g3, Or.inl ⟨g4, g5⟩⟩
/-- the walk's end, as the contract wants it -/
def rb_E (Φ : rb_F) (ret : Option FieldType) (Post : Option rb_V → rb_G → Prop) (mc ms : Nat) : Prop := match Φ with
  | (p, l, e, R, s, m, args, below, meth, c, Q, X, A, ad0, G0) => meth.sig.returnType = ret ∧ ∀ (H : Heap) (locs : List Loc) (g : JFrame), W p l e R s m args below meth c H locs mc ms (MQ below (rb_Q X A ad0 G0 Post) args s mc ms A) g → W p l e R s m args below meth c H locs mc ms Q g
def rb_EX (Φ : rb_F) (PX : String → rb_G → Prop) (mc ms : Nat) : Prop := match Φ with
  | (_, _, _, _, s, _, args, below, _, c, Q, X, A, ad0, G0) => (∀ x ∈ c.exceptionTable.toList, False) ∧ ∃ Qc, Q = vx_MQ below Qc (rb_QX X A ad0 G0 PX) args s mc ms A
theorem rb_blind {X : rb_X} {A : Nat → Prop} {ad : rb_R → Nat} {av : List rb_V} {vs : List Value} {G : rb_G} : FrameBlind (va_Pc vs (rb_In X A ad av G)) := by
  rintro a U g mk ⟨q0, q1, q2, q3, q4, q5⟩
  exact ⟨q0, q1, q2, rb_K1.warm (State.WarmedH.refl U) q3, rb_K2.moved (u := U) (U := U.calling g mk a) (Vm.Alike.refl U.vm) q4 (Nat.le_refl _) (fun _ _ _ => rfl), q5⟩
def rb_c1 (Lv : List (Option rb_V)) : Bool := Lv.all fun o => match o with
  | none => true
  | some v => rb_cat v == 1
theorem rb_c1_use {Lv : List (Option rb_V)} (h : rb_c1 Lv = true) : ∀ w, some w ∈ Lv → rb_cat w = 1 := by
  intro w hw
  have := List.all_eq_true.mp h _ hw
  simpa using this
theorem rb_al_args (ad : rb_R → Nat) : ∀ (av : List rb_V) (i : Nat) (n : Nat), rb_c1 (av.map some) = true → rb_al ad i (av.map some ++ List.replicate n none) = lv_args i (av.map (rb_c ad)) := by
  intro av
  induction av with
  | nil =>
    intro i n _
    show rb_al ad i (List.replicate n none) = []
    induction n generalizing i with
    | zero => rfl
    | succ n ih => exact ih (i + 1)
  | cons v t ih =>
    intro i n h
    have hv : rb_cat v = 1 := rb_c1_use h v (by simp)
    have ht : rb_c1 (t.map some) = true := by simp only [rb_c1, List.map_cons, List.all_cons, Bool.and_eq_true] at h ⊢; exact h.2
    show (i, rb_c ad v) :: rb_al ad (i + 1) (t.map some ++ List.replicate n none) = (i, rb_c ad v) :: lv_args (if (rb_c ad v).category = 2 then i + 2 else i + 1) (t.map (rb_c ad))
    rw [ih (i + 1) n ht, rb_cat_c, hv, if_neg (by decide)]
theorem rb_sl_len (ad : rb_R → Nat) : ∀ (av : List rb_V), rb_c1 (av.map some) = true → (lg_sl (av.map (rb_c ad))).length = av.length := by
  intro av
  induction av with
  | nil => intro _; rfl
  | cons v t ih =>
    intro h
    have hv : rb_cat v = 1 := rb_c1_use h v (by simp)
    have ht : rb_c1 (t.map some) = true := by simp only [rb_c1, List.map_cons, List.all_cons, Bool.and_eq_true] at h ⊢; exact h.2
    have e : (rb_c ad v).category = 1 := by rw [rb_cat_c, hv]
    simp only [lg_sl, List.map_cons, List.flatMap_cons, e]
    simp only [lg_sl] at ih
    simp [ih ht]
theorem rb_entry (ad : rb_R → Nat) (av : List rb_V) {n : Nat} (h : rb_c1 (av.map some) = true) (hn : av.length ≤ n) : rb_ls ad ((lg_sl (av.map (rb_c ad)) ++ List.replicate (n - (lg_sl (av.map (rb_c ad))).length) Slot.unset).toArray) (av.map some ++ List.replicate (n - av.length) none) := by
  have h1 := lv_entry (av.map (rb_c ad)) (n := n) (by rw [rb_sl_len ad av h]; exact hn)
  unfold rb_ls
  rw [rb_al_args ad av 0 _ h]
  have : (av.map some ++ List.replicate (n - av.length) (none : Option rb_V)).length = n := by simp; omega
  rw [this]
  exact h1
/-- the method's name -/
def rb_nm (Φ : rb_F) (nm : String) : Prop := match Φ with
  | (_, _, _, _, _, _, _, _, meth, _, _, _, _, _, _) => meth.name = nm
theorem rb_startN {l : Launch} {X : rb_X} {y : MethodName} {cc : ByteArray} {maxL : Nat} {ret : Option FieldType} {fr lo mc ms : Nat} {av : List rb_V} {G : rb_G} {Post : Option rb_V → rb_G → Prop} (own : String) (hy : y.cls = own) (hpl : plainName own = true) (hc1 : rb_c1 (av.map some) = true) (hn : av.length ≤ maxL)
    (body : ∀ Φ, rb_C Φ own cc maxL fr lo mc ms → rb_E Φ ret Post mc ms → rb_nm Φ y.name → rb_W Φ 0 0 0 (av.map some ++ List.replicate (maxL - av.length) none) [] G) : rb_N l X y (.code y cc maxL ret) fr lo mc ms av G Post := by
  intro hl A ad
  refine Met.ofW (cc := cc) (maxL := maxL) (ret := ret) (by rw [hy]; exact hpl) rfl ?_
  intro p e s m args below meth c s₁ B hml hv
  obtain ⟨rfl, hA, hP, hK1, hK2, hok⟩ := hv
  have hts0 := atoms_spec (ws := .code y cc maxL ret :: TS) B.pre
  have K := body (p, l, e, (headSpec (.code y cc maxL ret :: TS) { frames := fr, cells := mc, slots := ms, locals := lo }).room, s, m, (av.map (rb_c ad)).toArray, below, meth, c, MQ below (rb_Q X A ad G Post) (av.map (rb_c ad)).toArray s mc ms A, X, A, ad, G)
    ⟨B.exec, B.bytes, hml, by rw [← hy]; exact findClass_of_methodNamed B.named, fun w hw => hts0 w (List.mem_cons_of_mem _ hw), B.notSynchronized, rfl, hl, hK1, hK2, hA⟩ ⟨B.returns, fun _ _ _ h => h⟩ (name_of_methodNamed B.named B.method).1
  rw [lg_entry_eq]
  exact K ad s.heap [] _ hP rb_nx.rf va_S.rf (rb_entry ad av hc1 hn) (fun v hv => by cases hv) (fun v hv => by
    rcases List.mem_append.mp hv with h | h
    · obtain ⟨w, hw, e⟩ := List.mem_map.mp h
      cases e
      exact hok v hw
    · cases (List.mem_replicate.mp h).2)
theorem rb_startM {l : Launch} {X : rb_X} {y : MethodName} {cc : ByteArray} {maxL : Nat} {ret : Option FieldType} {fr lo mc ms : Nat} {av : List rb_V} {G : rb_G} {Post : Option rb_V → rb_G → Prop} {PX : String → rb_G → Prop} (own : String) (hy : y.cls = own) (hpl : plainName own = true) (hc1 : rb_c1 (av.map some) = true) (hn : av.length ≤ maxL)
    (body : ∀ Φ, rb_C Φ own cc maxL fr lo mc ms → rb_E Φ ret Post mc ms → rb_EX Φ PX mc ms → rb_W Φ 0 0 0 (av.map some ++ List.replicate (maxL - av.length) none) [] G) : rb_M l X y (.code y cc maxL ret) fr lo mc ms av G Post PX := by
  intro hl A ad
  refine vx_ofW (cc := cc) (maxL := maxL) (ret := ret) (by rw [hy]; exact hpl) rfl ?_
  intro p e s m args below meth c s₁ B hml htab hv
  obtain ⟨rfl, hA, hP, hK1, hK2, hok⟩ := hv
  have hts0 := atoms_spec (ws := .code y cc maxL ret :: TS) B.pre
  have K := body (p, l, e, (headSpec (.code y cc maxL ret :: TS) { frames := fr, cells := mc, slots := ms, locals := lo }).room, s, m, (av.map (rb_c ad)).toArray, below, meth, c, vx_MQ below (rb_Q X A ad G Post) (rb_QX X A ad G PX) (av.map (rb_c ad)).toArray s mc ms A, X, A, ad, G)
    ⟨B.exec, B.bytes, hml, by rw [← hy]; exact findClass_of_methodNamed B.named, fun w hw => hts0 w (List.mem_cons_of_mem _ hw), B.notSynchronized, rfl, hl, hK1, hK2, hA⟩ ⟨B.returns, fun _ _ _ h => vx_ret h⟩ ⟨htab, _, rfl⟩
  rw [lg_entry_eq]
  exact K ad s.heap [] _ hP rb_nx.rf va_S.rf (rb_entry ad av hc1 hn) (fun v hv => by cases hv) (fun v hv => by
    rcases List.mem_append.mp hv with h | h
    · obtain ⟨w, hw, e⟩ := List.mem_map.mp h
      cases e
      exact hok v hw
    · cases (List.mem_replicate.mp h).2)
end
section
section
variable {Φ : rb_F} {own : String} {cc : ByteArray} {nL fr lo mc ms cells slots pc : Nat} {Lv Lv' : List (Option rb_V)} {st : List rb_V} {G : rb_G}
theorem rb_iconst (C : rb_C Φ own cc nL fr lo mc ms) {n : Int} {v : Int32} (hd : decode cc pc = .ok (.iconst n, 1)) (hc : Int32.ofInt n = v) (kk : rb_W Φ cells slots (pc + 1) Lv (rbI v :: st) G) : rb_W Φ cells slots pc Lv st G := by
  obtain ⟨p, l, e, R, s, m, args, below, meth, c, Q, X, A, ad0, G0⟩ := Φ
  intro ad H locs ls hP hn hS hl ho hv
  exact lv_iconst C.1 C.2.1 hd hc (kk ad H locs ls hP hn hS hl (ho.cons (rb_ok_i _ _)) hv)
theorem rb_bipush (C : rb_C Φ own cc nL fr lo mc ms) {n : Int} {v : Int32} (hd : decode cc pc = .ok (.bipush n, 2)) (hc : (Int8.ofInt n).toInt32 = v) (kk : rb_W Φ cells slots (pc + 2) Lv (rbI v :: st) G) : rb_W Φ cells slots pc Lv st G := by
  obtain ⟨p, l, e, R, s, m, args, below, meth, c, Q, X, A, ad0, G0⟩ := Φ
  intro ad H locs ls hP hn hS hl ho hv
  exact lv_bipush C.1 C.2.1 hd hc (kk ad H locs ls hP hn hS hl (ho.cons (rb_ok_i _ _)) hv)
theorem rb_sipush (C : rb_C Φ own cc nL fr lo mc ms) {n : Int} {v : Int32} (hd : decode cc pc = .ok (.sipush n, 3)) (hc : (Int16.ofInt n).toInt32 = v) (kk : rb_W Φ cells slots (pc + 3) Lv (rbI v :: st) G) : rb_W Φ cells slots pc Lv st G := by
  obtain ⟨p, l, e, R, s, m, args, below, meth, c, Q, X, A, ad0, G0⟩ := Φ
  intro ad H locs ls hP hn hS hl ho hv
  exact lv_sipush C.1 C.2.1 hd hc (kk ad H locs ls hP hn hS hl (ho.cons (rb_ok_i _ _)) hv)
theorem rb_lconst (C : rb_C Φ own cc nL fr lo mc ms) {n : Fin 2} {v : Int64} (hd : decode cc pc = .ok (.lconst n, 1)) (hc : Int64.ofNat (n : Nat) = v) (kk : rb_W Φ cells slots (pc + 1) Lv (rbL v :: st) G) : rb_W Φ cells slots pc Lv st G := by
  obtain ⟨p, l, e, R, s, m, args, below, meth, c, Q, X, A, ad0, G0⟩ := Φ
  intro ad H locs ls hP hn hS hl ho hv
  exact lv_lconst C.1 C.2.1 hd hc (kk ad H locs ls hP hn hS hl (ho.cons (rb_ok_l _ _)) hv)
theorem rb_null (C : rb_C Φ own cc nL fr lo mc ms) (hd : decode cc pc = .ok (.aconst_null, 1)) (kk : rb_W Φ cells slots (pc + 1) Lv (rbO none :: st) G) : rb_W Φ cells slots pc Lv st G := by
  obtain ⟨p, l, e, R, s, m, args, below, meth, c, Q, X, A, ad0, G0⟩ := Φ
  intro ad H locs ls hP hn hS hl ho hv
  exact lv_null C.1 C.2.1 hd (kk ad H locs ls hP hn hS hl (ho.cons (rb_ok_n _)) hv)
theorem rb_iload_n (C : rb_C Φ own cc nL fr lo mc ms) {k : Fin 4} {x : Int32} (hd : decode cc pc = .ok (.iload_n k, 1)) (hi : Lv[(k : Nat)]? = some (some (rbI x))) (kk : rb_W Φ cells slots (pc + 1) Lv (rbI x :: st) G) : rb_W Φ cells slots pc Lv st G := by
  obtain ⟨p, l, e, R, s, m, args, below, meth, c, Q, X, A, ad0, G0⟩ := Φ
  intro ad H locs ls hP hn hS hl ho hv
  exact lv_iload_n C.1 C.2.1 hd rfl (hl.get hi) (kk ad H locs ls hP hn hS hl (ho.cons (rb_ok_i _ _)) hv)
theorem rb_iload (C : rb_C Φ own cc nL fr lo mc ms) {i : Nat} {x : Int32} (hd : decode cc pc = .ok (.iload i, 2)) (hi : Lv[i]? = some (some (rbI x))) (kk : rb_W Φ cells slots (pc + 2) Lv (rbI x :: st) G) : rb_W Φ cells slots pc Lv st G := by
  obtain ⟨p, l, e, R, s, m, args, below, meth, c, Q, X, A, ad0, G0⟩ := Φ
  intro ad H locs ls hP hn hS hl ho hv
  exact lv_iload C.1 C.2.1 hd (hl.get hi) (kk ad H locs ls hP hn hS hl (ho.cons (rb_ok_i _ _)) hv)
theorem rb_aload_n (C : rb_C Φ own cc nL fr lo mc ms) {k : Fin 4} {o : Option rb_R} (hd : decode cc pc = .ok (.aload_n k, 1)) (hi : Lv[(k : Nat)]? = some (some (rbO o))) (kk : rb_W Φ cells slots (pc + 1) Lv (rbO o :: st) G) : rb_W Φ cells slots pc Lv st G := by
  obtain ⟨p, l, e, R, s, m, args, below, meth, c, Q, X, A, ad0, G0⟩ := Φ
  intro ad H locs ls hP hn hS hl ho hv
  have hg := hl.get hi
  have hk := kk ad H locs ls hP hn hS hl (ho.cons (hv _ (List.mem_of_getElem? hi))) hv
  cases o with
  | none => exact lv_aload_nN C.1 C.2.1 hd rfl hg hk
  | some r => exact lv_aload_n C.1 C.2.1 hd rfl hg hk
theorem rb_aload (C : rb_C Φ own cc nL fr lo mc ms) {i : Nat} {o : Option rb_R} (hd : decode cc pc = .ok (.aload i, 2)) (hi : Lv[i]? = some (some (rbO o))) (kk : rb_W Φ cells slots (pc + 2) Lv (rbO o :: st) G) : rb_W Φ cells slots pc Lv st G := by
  obtain ⟨p, l, e, R, s, m, args, below, meth, c, Q, X, A, ad0, G0⟩ := Φ
  intro ad H locs ls hP hn hS hl ho hv
  have hg := hl.get hi
  have hk := kk ad H locs ls hP hn hS hl (ho.cons (hv _ (List.mem_of_getElem? hi))) hv
  cases o with
  | none => exact lv_aloadN C.1 C.2.1 hd hg hk
  | some r => exact lv_aload C.1 C.2.1 hd hg hk
theorem rb_okO_set {v : rb_V} {i : Nat} (h : rb_okO G Lv) (hv : rb_ok G v) (hL : Lv.set i (some v) = Lv') : rb_okO G Lv' := by
  subst hL
  intro w hw
  rcases List.mem_or_eq_of_mem_set hw with h1 | h1
  · exact h w h1
  · cases h1; exact hv
theorem rb_istore_n (C : rb_C Φ own cc nL fr lo mc ms) {k : Fin 4} {x : Int32} (hd : decode cc pc = .ok (.istore_n k, 1)) (hi : (k : Nat) < Lv.length) (h1 : rb_c1 Lv = true) (hL : Lv.set (k : Nat) (some (rbI x)) = Lv') (kk : rb_W Φ cells slots (pc + 1) Lv' st G) : rb_W Φ cells slots pc Lv (rbI x :: st) G := by
  obtain ⟨p, l, e, R, s, m, args, below, meth, c, Q, X, A, ad0, G0⟩ := Φ
  intro ad H locs ls hP hn hS hl ho hv
  exact lv_istore_n C.1 C.2.1 hd rfl hl hi rfl (fun ls' hl' => kk ad H locs ls' hP hn hS (hL ▸ rb_ls.store hi hl' (rb_c1_use h1)) ho.tl (rb_okO_set hv (rb_ok_i _ _) hL))
theorem rb_istore (C : rb_C Φ own cc nL fr lo mc ms) {i : Nat} {x : Int32} (hd : decode cc pc = .ok (.istore i, 2)) (hi : i < Lv.length) (h1 : rb_c1 Lv = true) (hL : Lv.set i (some (rbI x)) = Lv') (kk : rb_W Φ cells slots (pc + 2) Lv' st G) : rb_W Φ cells slots pc Lv (rbI x :: st) G := by
  obtain ⟨p, l, e, R, s, m, args, below, meth, c, Q, X, A, ad0, G0⟩ := Φ
  intro ad H locs ls hP hn hS hl ho hv
  exact lv_istore C.1 C.2.1 hd hl hi rfl (fun ls' hl' => kk ad H locs ls' hP hn hS (hL ▸ rb_ls.store hi hl' (rb_c1_use h1)) ho.tl (rb_okO_set hv (rb_ok_i _ _) hL))
theorem rb_astore_n (C : rb_C Φ own cc nL fr lo mc ms) {k : Fin 4} {o : Option rb_R} (hd : decode cc pc = .ok (.astore_n k, 1)) (hi : (k : Nat) < Lv.length) (h1 : rb_c1 Lv = true) (hL : Lv.set (k : Nat) (some (rbO o)) = Lv') (kk : rb_W Φ cells slots (pc + 1) Lv' st G) : rb_W Φ cells slots pc Lv (rbO o :: st) G := by
  obtain ⟨p, l, e, R, s, m, args, below, meth, c, Q, X, A, ad0, G0⟩ := Φ
  intro ad H locs ls hP hn hS hl ho hv
  cases o with
  | none => exact lv_astore_nN C.1 C.2.1 hd rfl hl hi rfl (fun ls' hl' => kk ad H locs ls' hP hn hS (hL ▸ rb_ls.store (v := rbO none) hi hl' (rb_c1_use h1)) ho.tl (rb_okO_set hv ho.hd hL))
  | some r => exact lv_astore_n C.1 C.2.1 hd rfl hl hi rfl (fun ls' hl' => kk ad H locs ls' hP hn hS (hL ▸ rb_ls.store (v := rbO (some r)) hi hl' (rb_c1_use h1)) ho.tl (rb_okO_set hv ho.hd hL))
theorem rb_astore (C : rb_C Φ own cc nL fr lo mc ms) {i : Nat} {o : Option rb_R} (hd : decode cc pc = .ok (.astore i, 2)) (hi : i < Lv.length) (h1 : rb_c1 Lv = true) (hL : Lv.set i (some (rbO o)) = Lv') (kk : rb_W Φ cells slots (pc + 2) Lv' st G) : rb_W Φ cells slots pc Lv (rbO o :: st) G := by
  obtain ⟨p, l, e, R, s, m, args, below, meth, c, Q, X, A, ad0, G0⟩ := Φ
  intro ad H locs ls hP hn hS hl ho hv
  cases o with
  | none => exact lv_astoreN C.1 C.2.1 hd hl hi rfl (fun ls' hl' => kk ad H locs ls' hP hn hS (hL ▸ rb_ls.store (v := rbO none) hi hl' (rb_c1_use h1)) ho.tl (rb_okO_set hv ho.hd hL))
  | some r => exact lv_astore C.1 C.2.1 hd hl hi rfl (fun ls' hl' => kk ad H locs ls' hP hn hS (hL ▸ rb_ls.store (v := rbO (some r)) hi hl' (rb_c1_use h1)) ho.tl (rb_okO_set hv ho.hd hL))
theorem rb_iinc (C : rb_C Φ own cc nL fr lo mc ms) {i : Nat} {n : Int} {x v : Int32} (hd : decode cc pc = .ok (.iinc i n, 3)) (hg : Lv[i]? = some (some (rbI x))) (hx : x + Int32.ofInt n = v) (h1 : rb_c1 Lv = true) (hL : Lv.set i (some (rbI v)) = Lv') (kk : rb_W Φ cells slots (pc + 3) Lv' st G) : rb_W Φ cells slots pc Lv st G := by
  obtain ⟨p, l, e, R, s, m, args, below, meth, c, Q, X, A, ad0, G0⟩ := Φ
  intro ad H locs ls hP hn hS hl ho hv
  have hi : i < Lv.length := (List.getElem?_eq_some_iff.mp hg).1
  obtain ⟨j, hj⟩ : ∃ j : Nat, (rb_al ad 0 Lv)[j]? = some (i, .int x) := List.getElem?_of_mem ((rb_al_mem ad Lv 0 _).mpr ⟨i, rbI x, hg, by rw [Nat.zero_add]; rfl⟩)
  exact lv_iinc C.1 C.2.1 hd hl hj hx hi rfl (fun ls' hl' => kk ad H locs ls' hP hn hS (hL ▸ rb_ls.store (v := rbI v) hi hl' (rb_c1_use h1)) ho (rb_okO_set hv (rb_ok_i _ _) hL))
theorem rb_iadd (C : rb_C Φ own cc nL fr lo mc ms) {x y : Int32} (hd : decode cc pc = .ok (.iadd, 1)) (kk : rb_W Φ cells slots (pc + 1) Lv (rbI (x + y) :: st) G) : rb_W Φ cells slots pc Lv (rbI y :: rbI x :: st) G := by
  obtain ⟨p, l, e, R, s, m, args, below, meth, c, Q, X, A, ad0, G0⟩ := Φ
  intro ad H locs ls hP hn hS hl ho hv
  exact lv_iadd C.1 C.2.1 hd (kk ad H locs ls hP hn hS hl (ho.tl.tl.cons (rb_ok_i _ _)) hv)
theorem rb_isub (C : rb_C Φ own cc nL fr lo mc ms) {x y : Int32} (hd : decode cc pc = .ok (.isub, 1)) (kk : rb_W Φ cells slots (pc + 1) Lv (rbI (x - y) :: st) G) : rb_W Φ cells slots pc Lv (rbI y :: rbI x :: st) G := by
  obtain ⟨p, l, e, R, s, m, args, below, meth, c, Q, X, A, ad0, G0⟩ := Φ
  intro ad H locs ls hP hn hS hl ho hv
  exact lv_isub C.1 C.2.1 hd (kk ad H locs ls hP hn hS hl (ho.tl.tl.cons (rb_ok_i _ _)) hv)
theorem rb_imul (C : rb_C Φ own cc nL fr lo mc ms) {x y : Int32} (hd : decode cc pc = .ok (.imul, 1)) (kk : rb_W Φ cells slots (pc + 1) Lv (rbI (x * y) :: st) G) : rb_W Φ cells slots pc Lv (rbI y :: rbI x :: st) G := by
  obtain ⟨p, l, e, R, s, m, args, below, meth, c, Q, X, A, ad0, G0⟩ := Φ
  intro ad H locs ls hP hn hS hl ho hv
  exact lv_imul C.1 C.2.1 hd (kk ad H locs ls hP hn hS hl (ho.tl.tl.cons (rb_ok_i _ _)) hv)
theorem rb_iand (C : rb_C Φ own cc nL fr lo mc ms) {x y : Int32} (hd : decode cc pc = .ok (.iand, 1)) (kk : rb_W Φ cells slots (pc + 1) Lv (rbI (x &&& y) :: st) G) : rb_W Φ cells slots pc Lv (rbI y :: rbI x :: st) G := by
  obtain ⟨p, l, e, R, s, m, args, below, meth, c, Q, X, A, ad0, G0⟩ := Φ
  intro ad H locs ls hP hn hS hl ho hv
  exact lv_iand C.1 C.2.1 hd (kk ad H locs ls hP hn hS hl (ho.tl.tl.cons (rb_ok_i _ _)) hv)
theorem rb_ishr (C : rb_C Φ own cc nL fr lo mc ms) {x y : Int32} (hd : decode cc pc = .ok (.ishr, 1)) (kk : rb_W Φ cells slots (pc + 1) Lv (rbI (x >>> (y &&& 31)) :: st) G) : rb_W Φ cells slots pc Lv (rbI y :: rbI x :: st) G := by
  obtain ⟨p, l, e, R, s, m, args, below, meth, c, Q, X, A, ad0, G0⟩ := Φ
  intro ad H locs ls hP hn hS hl ho hv
  exact lv_ishr C.1 C.2.1 hd (kk ad H locs ls hP hn hS hl (ho.tl.tl.cons (rb_ok_i _ _)) hv)
theorem rb_idiv (C : rb_C Φ own cc nL fr lo mc ms) {x y : Int32} (hd : decode cc pc = .ok (.idiv, 1)) (hne : ¬ y = 0) (kk : rb_W Φ cells slots (pc + 1) Lv (rbI (x / y) :: st) G) : rb_W Φ cells slots pc Lv (rbI y :: rbI x :: st) G := by
  obtain ⟨p, l, e, R, s, m, args, below, meth, c, Q, X, A, ad0, G0⟩ := Φ
  intro ad H locs ls hP hn hS hl ho hv
  exact lv_idiv C.1 C.2.1 hd hne (kk ad H locs ls hP hn hS hl (ho.tl.tl.cons (rb_ok_i _ _)) hv)
theorem rb_irem (C : rb_C Φ own cc nL fr lo mc ms) {x y : Int32} (hd : decode cc pc = .ok (.irem, 1)) (hne : ¬ y = 0) (kk : rb_W Φ cells slots (pc + 1) Lv (rbI (x - x / y * y) :: st) G) : rb_W Φ cells slots pc Lv (rbI y :: rbI x :: st) G := by
  obtain ⟨p, l, e, R, s, m, args, below, meth, c, Q, X, A, ad0, G0⟩ := Φ
  intro ad H locs ls hP hn hS hl ho hv
  exact lv_irem C.1 C.2.1 hd hne (kk ad H locs ls hP hn hS hl (ho.tl.tl.cons (rb_ok_i _ _)) hv)
theorem rb_lmul (C : rb_C Φ own cc nL fr lo mc ms) {x y : Int64} (hd : decode cc pc = .ok (.lmul, 1)) (kk : rb_W Φ cells slots (pc + 1) Lv (rbL (x * y) :: st) G) : rb_W Φ cells slots pc Lv (rbL y :: rbL x :: st) G := by
  obtain ⟨p, l, e, R, s, m, args, below, meth, c, Q, X, A, ad0, G0⟩ := Φ
  intro ad H locs ls hP hn hS hl ho hv
  exact lv_lmul C.1 C.2.1 hd (kk ad H locs ls hP hn hS hl (ho.tl.tl.cons (rb_ok_l _ _)) hv)
theorem rb_lcmp (C : rb_C Φ own cc nL fr lo mc ms) {x y : Int64} (hd : decode cc pc = .ok (.lcmp, 1)) (kk : rb_W Φ cells slots (pc + 1) Lv (rbI (lg_cmp x y) :: st) G) : rb_W Φ cells slots pc Lv (rbL y :: rbL x :: st) G := by
  obtain ⟨p, l, e, R, s, m, args, below, meth, c, Q, X, A, ad0, G0⟩ := Φ
  intro ad H locs ls hP hn hS hl ho hv
  exact W.lcmp C.1 C.2.1 hd (kk ad H locs ls hP hn hS hl (ho.tl.tl.cons (rb_ok_i _ _)) hv)
theorem rb_i2l (C : rb_C Φ own cc nL fr lo mc ms) {x : Int32} (hd : decode cc pc = .ok (.i2l, 1)) (kk : rb_W Φ cells slots (pc + 1) Lv (rbL x.toInt64 :: st) G) : rb_W Φ cells slots pc Lv (rbI x :: st) G := by
  obtain ⟨p, l, e, R, s, m, args, below, meth, c, Q, X, A, ad0, G0⟩ := Φ
  intro ad H locs ls hP hn hS hl ho hv
  exact lv_i2l C.1 C.2.1 hd rfl (kk ad H locs ls hP hn hS hl (ho.tl.cons (rb_ok_l _ _)) hv)
theorem rb_dup (C : rb_C Φ own cc nL fr lo mc ms) {v : rb_V} (hd : decode cc pc = .ok (.dup, 1)) (hc : rb_cat v = 1) (kk : rb_W Φ cells slots (pc + 1) Lv (v :: v :: st) G) : rb_W Φ cells slots pc Lv (v :: st) G := by
  obtain ⟨p, l, e, R, s, m, args, below, meth, c, Q, X, A, ad0, G0⟩ := Φ
  intro ad H locs ls hP hn hS hl ho hv
  exact lv_dup C.1 C.2.1 hd (by rw [rb_cat_c, hc]) (kk ad H locs ls hP hn hS hl (ho.cons ho.hd) hv)
theorem rb_pop (C : rb_C Φ own cc nL fr lo mc ms) {v : rb_V} (hd : decode cc pc = .ok (.pop, 1)) (hc : rb_cat v = 1) (kk : rb_W Φ cells slots (pc + 1) Lv st G) : rb_W Φ cells slots pc Lv (v :: st) G := by
  obtain ⟨p, l, e, R, s, m, args, below, meth, c, Q, X, A, ad0, G0⟩ := Φ
  intro ad H locs ls hP hn hS hl ho hv
  exact lv_pop C.1 C.2.1 hd (by rw [rb_cat_c, hc]) (kk ad H locs ls hP hn hS hl ho.tl hv)
theorem rb_dup_x1 (C : rb_C Φ own cc nL fr lo mc ms) {v w : rb_V} (hd : decode cc pc = .ok (.dup_x1, 1)) (hc : rb_cat v = 1) (hw : rb_cat w = 1) (kk : rb_W Φ cells slots (pc + 1) Lv (v :: w :: v :: st) G) : rb_W Φ cells slots pc Lv (v :: w :: st) G := by
  obtain ⟨p, l, e, R, s, m, args, below, meth, c, Q, X, A, ad0, G0⟩ := Φ
  intro ad H locs ls hP hn hS hl ho hv
  exact lv_dup_x1 C.1 C.2.1 hd (by rw [rb_cat_c, hc]) (by rw [rb_cat_c, hw]) (kk ad H locs ls hP hn hS hl (((ho.tl.tl.cons ho.hd).cons ho.tl.hd).cons ho.hd) hv)
theorem rb_dup2 (C : rb_C Φ own cc nL fr lo mc ms) {v w : rb_V} (hd : decode cc pc = .ok (.dup2, 1)) (hc : rb_cat v = 1) (hw : rb_cat w = 1) (kk : rb_W Φ cells slots (pc + 1) Lv (v :: w :: v :: w :: st) G) : rb_W Φ cells slots pc Lv (v :: w :: st) G := by
  obtain ⟨p, l, e, R, s, m, args, below, meth, c, Q, X, A, ad0, G0⟩ := Φ
  intro ad H locs ls hP hn hS hl ho hv
  exact lv_dup2_11 C.1 C.2.1 hd (by rw [rb_cat_c, hc]) (by rw [rb_cat_c, hw]) (kk ad H locs ls hP hn hS hl ((ho.cons ho.tl.hd).cons ho.hd) hv)
theorem rb_if_eq (C : rb_C Φ own cc nL fr lo mc ms) {x : Int32} {off : Int} (tgt : Nat) (hd : decode cc pc = .ok (.ifCond .eq off, 3)) (ht : (pc : Int) + off = (tgt : Int)) (kt : x = 0 → rb_W Φ cells slots tgt Lv st G) (kf : ¬ x = 0 → rb_W Φ cells slots (pc + 3) Lv st G) : rb_W Φ cells slots pc Lv (rbI x :: st) G := by
  obtain ⟨p, l, e, R, s, m, args, below, meth, c, Q, X, A, ad0, G0⟩ := Φ
  intro ad H locs ls hP hn hS hl ho hv
  exact lv_if_eq C.1 C.2.1 hd ht (fun q => kt q ad H locs ls hP hn hS hl ho.tl hv) (fun q => kf q ad H locs ls hP hn hS hl ho.tl hv)
theorem rb_icmp_eq (C : rb_C Φ own cc nL fr lo mc ms) {x y : Int32} {off : Int} (tgt : Nat) (hd : decode cc pc = .ok (.if_icmp .eq off, 3)) (ht : (pc : Int) + off = (tgt : Int)) (kt : x = y → rb_W Φ cells slots tgt Lv st G) (kf : ¬ x = y → rb_W Φ cells slots (pc + 3) Lv st G) : rb_W Φ cells slots pc Lv (rbI y :: rbI x :: st) G := by
  obtain ⟨p, l, e, R, s, m, args, below, meth, c, Q, X, A, ad0, G0⟩ := Φ
  intro ad H locs ls hP hn hS hl ho hv
  exact lv_icmp_eq C.1 C.2.1 hd ht (fun q => kt q ad H locs ls hP hn hS hl ho.tl.tl hv) (fun q => kf q ad H locs ls hP hn hS hl ho.tl.tl hv)
theorem rb_if_ne (C : rb_C Φ own cc nL fr lo mc ms) {x : Int32} {off : Int} (tgt : Nat) (hd : decode cc pc = .ok (.ifCond .ne off, 3)) (ht : (pc : Int) + off = (tgt : Int)) (kt : ¬ x = 0 → rb_W Φ cells slots tgt Lv st G) (kf : x = 0 → rb_W Φ cells slots (pc + 3) Lv st G) : rb_W Φ cells slots pc Lv (rbI x :: st) G := by
  obtain ⟨p, l, e, R, s, m, args, below, meth, c, Q, X, A, ad0, G0⟩ := Φ
  intro ad H locs ls hP hn hS hl ho hv
  exact lv_if_ne C.1 C.2.1 hd ht (fun q => kt q ad H locs ls hP hn hS hl ho.tl hv) (fun q => kf q ad H locs ls hP hn hS hl ho.tl hv)
theorem rb_icmp_ne (C : rb_C Φ own cc nL fr lo mc ms) {x y : Int32} {off : Int} (tgt : Nat) (hd : decode cc pc = .ok (.if_icmp .ne off, 3)) (ht : (pc : Int) + off = (tgt : Int)) (kt : ¬ x = y → rb_W Φ cells slots tgt Lv st G) (kf : x = y → rb_W Φ cells slots (pc + 3) Lv st G) : rb_W Φ cells slots pc Lv (rbI y :: rbI x :: st) G := by
  obtain ⟨p, l, e, R, s, m, args, below, meth, c, Q, X, A, ad0, G0⟩ := Φ
  intro ad H locs ls hP hn hS hl ho hv
  exact lv_icmp_ne C.1 C.2.1 hd ht (fun q => kt q ad H locs ls hP hn hS hl ho.tl.tl hv) (fun q => kf q ad H locs ls hP hn hS hl ho.tl.tl hv)
theorem rb_if_lt (C : rb_C Φ own cc nL fr lo mc ms) {x : Int32} {off : Int} (tgt : Nat) (hd : decode cc pc = .ok (.ifCond .lt off, 3)) (ht : (pc : Int) + off = (tgt : Int)) (kt : x < 0 → rb_W Φ cells slots tgt Lv st G) (kf : ¬ x < 0 → rb_W Φ cells slots (pc + 3) Lv st G) : rb_W Φ cells slots pc Lv (rbI x :: st) G := by
  obtain ⟨p, l, e, R, s, m, args, below, meth, c, Q, X, A, ad0, G0⟩ := Φ
  intro ad H locs ls hP hn hS hl ho hv
  exact lv_if_lt C.1 C.2.1 hd ht (fun q => kt q ad H locs ls hP hn hS hl ho.tl hv) (fun q => kf q ad H locs ls hP hn hS hl ho.tl hv)
theorem rb_icmp_lt (C : rb_C Φ own cc nL fr lo mc ms) {x y : Int32} {off : Int} (tgt : Nat) (hd : decode cc pc = .ok (.if_icmp .lt off, 3)) (ht : (pc : Int) + off = (tgt : Int)) (kt : x < y → rb_W Φ cells slots tgt Lv st G) (kf : ¬ x < y → rb_W Φ cells slots (pc + 3) Lv st G) : rb_W Φ cells slots pc Lv (rbI y :: rbI x :: st) G := by
  obtain ⟨p, l, e, R, s, m, args, below, meth, c, Q, X, A, ad0, G0⟩ := Φ
  intro ad H locs ls hP hn hS hl ho hv
  exact lv_icmp_lt C.1 C.2.1 hd ht (fun q => kt q ad H locs ls hP hn hS hl ho.tl.tl hv) (fun q => kf q ad H locs ls hP hn hS hl ho.tl.tl hv)
theorem rb_if_ge (C : rb_C Φ own cc nL fr lo mc ms) {x : Int32} {off : Int} (tgt : Nat) (hd : decode cc pc = .ok (.ifCond .ge off, 3)) (ht : (pc : Int) + off = (tgt : Int)) (kt : 0 ≤ x → rb_W Φ cells slots tgt Lv st G) (kf : ¬ 0 ≤ x → rb_W Φ cells slots (pc + 3) Lv st G) : rb_W Φ cells slots pc Lv (rbI x :: st) G := by
  obtain ⟨p, l, e, R, s, m, args, below, meth, c, Q, X, A, ad0, G0⟩ := Φ
  intro ad H locs ls hP hn hS hl ho hv
  exact lv_if_ge C.1 C.2.1 hd ht (fun q => kt q ad H locs ls hP hn hS hl ho.tl hv) (fun q => kf q ad H locs ls hP hn hS hl ho.tl hv)
theorem rb_icmp_ge (C : rb_C Φ own cc nL fr lo mc ms) {x y : Int32} {off : Int} (tgt : Nat) (hd : decode cc pc = .ok (.if_icmp .ge off, 3)) (ht : (pc : Int) + off = (tgt : Int)) (kt : y ≤ x → rb_W Φ cells slots tgt Lv st G) (kf : ¬ y ≤ x → rb_W Φ cells slots (pc + 3) Lv st G) : rb_W Φ cells slots pc Lv (rbI y :: rbI x :: st) G := by
  obtain ⟨p, l, e, R, s, m, args, below, meth, c, Q, X, A, ad0, G0⟩ := Φ
  intro ad H locs ls hP hn hS hl ho hv
  exact lv_icmp_ge C.1 C.2.1 hd ht (fun q => kt q ad H locs ls hP hn hS hl ho.tl.tl hv) (fun q => kf q ad H locs ls hP hn hS hl ho.tl.tl hv)
theorem rb_if_gt (C : rb_C Φ own cc nL fr lo mc ms) {x : Int32} {off : Int} (tgt : Nat) (hd : decode cc pc = .ok (.ifCond .gt off, 3)) (ht : (pc : Int) + off = (tgt : Int)) (kt : 0 < x → rb_W Φ cells slots tgt Lv st G) (kf : ¬ 0 < x → rb_W Φ cells slots (pc + 3) Lv st G) : rb_W Φ cells slots pc Lv (rbI x :: st) G := by
  obtain ⟨p, l, e, R, s, m, args, below, meth, c, Q, X, A, ad0, G0⟩ := Φ
  intro ad H locs ls hP hn hS hl ho hv
  exact lv_if_gt C.1 C.2.1 hd ht (fun q => kt q ad H locs ls hP hn hS hl ho.tl hv) (fun q => kf q ad H locs ls hP hn hS hl ho.tl hv)
theorem rb_icmp_gt (C : rb_C Φ own cc nL fr lo mc ms) {x y : Int32} {off : Int} (tgt : Nat) (hd : decode cc pc = .ok (.if_icmp .gt off, 3)) (ht : (pc : Int) + off = (tgt : Int)) (kt : y < x → rb_W Φ cells slots tgt Lv st G) (kf : ¬ y < x → rb_W Φ cells slots (pc + 3) Lv st G) : rb_W Φ cells slots pc Lv (rbI y :: rbI x :: st) G := by
  obtain ⟨p, l, e, R, s, m, args, below, meth, c, Q, X, A, ad0, G0⟩ := Φ
  intro ad H locs ls hP hn hS hl ho hv
  exact lv_icmp_gt C.1 C.2.1 hd ht (fun q => kt q ad H locs ls hP hn hS hl ho.tl.tl hv) (fun q => kf q ad H locs ls hP hn hS hl ho.tl.tl hv)
theorem rb_if_le (C : rb_C Φ own cc nL fr lo mc ms) {x : Int32} {off : Int} (tgt : Nat) (hd : decode cc pc = .ok (.ifCond .le off, 3)) (ht : (pc : Int) + off = (tgt : Int)) (kt : x ≤ 0 → rb_W Φ cells slots tgt Lv st G) (kf : ¬ x ≤ 0 → rb_W Φ cells slots (pc + 3) Lv st G) : rb_W Φ cells slots pc Lv (rbI x :: st) G := by
  obtain ⟨p, l, e, R, s, m, args, below, meth, c, Q, X, A, ad0, G0⟩ := Φ
  intro ad H locs ls hP hn hS hl ho hv
  exact lv_if_le C.1 C.2.1 hd ht (fun q => kt q ad H locs ls hP hn hS hl ho.tl hv) (fun q => kf q ad H locs ls hP hn hS hl ho.tl hv)
theorem rb_icmp_le (C : rb_C Φ own cc nL fr lo mc ms) {x y : Int32} {off : Int} (tgt : Nat) (hd : decode cc pc = .ok (.if_icmp .le off, 3)) (ht : (pc : Int) + off = (tgt : Int)) (kt : x ≤ y → rb_W Φ cells slots tgt Lv st G) (kf : ¬ x ≤ y → rb_W Φ cells slots (pc + 3) Lv st G) : rb_W Φ cells slots pc Lv (rbI y :: rbI x :: st) G := by
  obtain ⟨p, l, e, R, s, m, args, below, meth, c, Q, X, A, ad0, G0⟩ := Φ
  intro ad H locs ls hP hn hS hl ho hv
  exact lv_icmp_le C.1 C.2.1 hd ht (fun q => kt q ad H locs ls hP hn hS hl ho.tl.tl hv) (fun q => kf q ad H locs ls hP hn hS hl ho.tl.tl hv)
theorem rb_goto (C : rb_C Φ own cc nL fr lo mc ms) {off : Int} (tgt : Nat) (hd : decode cc pc = .ok (.goto off, 3)) (ht : (pc : Int) + off = (tgt : Int)) (kk : rb_W Φ cells slots tgt Lv st G) : rb_W Φ cells slots pc Lv st G := by
  obtain ⟨p, l, e, R, s, m, args, below, meth, c, Q, X, A, ad0, G0⟩ := Φ
  intro ad H locs ls hP hn hS hl ho hv
  exact lv_goto C.1 C.2.1 hd ht (kk ad H locs ls hP hn hS hl ho hv)
theorem rb_ifnonnull (C : rb_C Φ own cc nL fr lo mc ms) {o : Option rb_R} {off : Int} (tgt : Nat) (hd : decode cc pc = .ok (.ifnonnull off, 3)) (ht : (pc : Int) + off = (tgt : Int)) (kt : ∀ r, o = some r → rb_W Φ cells slots tgt Lv st G) (kf : o = none → rb_W Φ cells slots (pc + 3) Lv st G) : rb_W Φ cells slots pc Lv (rbO o :: st) G := by
  obtain ⟨p, l, e, R, s, m, args, below, meth, c, Q, X, A, ad0, G0⟩ := Φ
  intro ad H locs ls hP hn hS hl ho hv
  cases o with
  | none => exact lv_ifnonnullN C.1 C.2.1 hd (kf rfl ad H locs ls hP hn hS hl ho.tl hv)
  | some r => exact lv_ifnonnull C.1 C.2.1 hd ht (kt r rfl ad H locs ls hP hn hS hl ho.tl hv)
theorem rb_ldc (C : rb_C Φ own cc nL fr lo mc ms) {index : Nat} {v : Int32} (hd : decode cc pc = .ok (.ldc index, 2)) (hw : Cond.constant own index v ∈ TS) (kk : rb_W Φ cells slots (pc + 2) Lv (rbI v :: st) G) : rb_W Φ cells slots pc Lv st G := by
  obtain ⟨p, l, e, R, s, m, args, below, meth, c, Q, X, A, ad0, G0⟩ := Φ
  intro ad H locs ls hP hn hS hl ho hv
  exact lv_ldc C.1 C.2.1 C.2.2.2.1 (C.2.2.2.2.1 _ hw) hd (kk ad H locs ls hP hn hS hl (ho.cons (rb_ok_i _ _)) hv)
theorem rb_ldcw (C : rb_C Φ own cc nL fr lo mc ms) {index : Nat} {v : Int32} (hd : decode cc pc = .ok (.ldc_w index, 3)) (hw : Cond.constant own index v ∈ TS) (kk : rb_W Φ cells slots (pc + 3) Lv (rbI v :: st) G) : rb_W Φ cells slots pc Lv st G := by
  obtain ⟨p, l, e, R, s, m, args, below, meth, c, Q, X, A, ad0, G0⟩ := Φ
  intro ad H locs ls hP hn hS hl ho hv
  exact lv_ldcw C.1 C.2.1 C.2.2.2.1 (C.2.2.2.2.1 _ hw) hd (kk ad H locs ls hP hn hS hl (ho.cons (rb_ok_i _ _)) hv)
theorem rb_ldc2 (C : rb_C Φ own cc nL fr lo mc ms) {index : Nat} {v : Int64} (hd : decode cc pc = .ok (.ldc2_w index, 3)) (hw : Cond.constantLong own index v ∈ TS) (kk : rb_W Φ cells slots (pc + 3) Lv (rbL v :: st) G) : rb_W Φ cells slots pc Lv st G := by
  obtain ⟨p, l, e, R, s, m, args, below, meth, c, Q, X, A, ad0, G0⟩ := Φ
  intro ad H locs ls hP hn hS hl ho hv
  exact lv_ldc2 C.1 C.2.1 C.2.2.2.1 (C.2.2.2.2.1 _ hw) hd (kk ad H locs ls hP hn hS hl (ho.cons (rb_ok_l _ _)) hv)
theorem rb_tableIn (C : rb_C Φ own cc nL fr lo mc ms) {dflt lo' hi : Int} {offs : Array Int} {len : Nat} {x : Int32} {off : Int} (tgt : Nat) (hd : decode cc pc = .ok (.tableswitch dflt lo' hi offs, len)) (h1 : ¬ x.toInt < lo') (h2 : ¬ hi < x.toInt) (hoff : offs[(x.toInt - lo').toNat]? = some off) (ht : (pc : Int) + off = (tgt : Int)) (kk : rb_W Φ cells slots tgt Lv st G) : rb_W Φ cells slots pc Lv (rbI x :: st) G := by
  obtain ⟨p, l, e, R, s, m, args, below, meth, c, Q, X, A, ad0, G0⟩ := Φ
  intro ad H locs ls hP hn hS hl ho hv
  exact lv_tableIn C.1 C.2.1 hd h1 h2 hoff ht (kk ad H locs ls hP hn hS hl ho.tl hv)
theorem rb_tableOut (C : rb_C Φ own cc nL fr lo mc ms) {dflt lo' hi : Int} {offs : Array Int} {len : Nat} {x : Int32} (tgt : Nat) (hd : decode cc pc = .ok (.tableswitch dflt lo' hi offs, len)) (h1 : x.toInt < lo' ∨ hi < x.toInt) (ht : (pc : Int) + dflt = (tgt : Int)) (kk : rb_W Φ cells slots tgt Lv st G) : rb_W Φ cells slots pc Lv (rbI x :: st) G := by
  obtain ⟨p, l, e, R, s, m, args, below, meth, c, Q, X, A, ad0, G0⟩ := Φ
  intro ad H locs ls hP hn hS hl ho hv
  exact lv_tableOut C.1 C.2.1 hd h1 ht (kk ad H locs ls hP hn hS hl ho.tl hv)
/-- fewer locals known, more room used -/
theorem rb_W.weak {cells' slots' : Nat} (kk : rb_W Φ cells' slots' pc Lv' st G) (hc : cells ≤ cells') (hs : slots ≤ slots') (hlen : Lv'.length = Lv.length) (hsub : ∀ (i : Nat) (v : rb_V), Lv'[i]? = some (some v) → Lv[i]? = some (some v)) : rb_W Φ cells slots pc Lv st G := by
  obtain ⟨p, l, e, R, s, m, args, below, meth, c, Q, X, A, ad0, G0⟩ := Φ
  intro ad H locs ls hP hn hS hl ho hv
  refine W.widen hc hs (kk ad H locs ls hP hn hS (hl.weak hlen hsub) ho fun v hv' => ?_)
  obtain ⟨i, hi⟩ := List.getElem?_of_mem hv'
  exact hv v (List.mem_of_getElem? (hsub i v hi))
theorem rb_W.room {cells' slots' : Nat} (kk : rb_W Φ cells' slots' pc Lv st G) (hc : cells ≤ cells') (hs : slots ≤ slots') : rb_W Φ cells slots pc Lv st G := rb_W.weak kk hc hs rfl (fun _ _ h => h)
/-- ends -/
theorem rb_iret (C : rb_C Φ own cc nL fr lo mc ms) {Post : Option rb_V → rb_G → Prop} (hE : rb_E Φ (some .int) Post mc ms) {v : Int32} (hd : decode cc pc = .ok (.ireturn, 1)) (hc : cells ≤ mc) (hs : slots ≤ ms) (hp : Post (some (rbI v)) G) : rb_W Φ cells slots pc Lv [rbI v] G := by
  obtain ⟨p, l, e, R, s, m, args, below, meth, c, Q, X, A, ad0, G0⟩ := Φ
  intro ad H locs ls hP hn hS hl ho hv
  have hlk : meth.locks = false := C.2.2.2.2.2.1
  exact W.widen hc hs (hE.2 H locs _ (W.iret C.1 C.2.1 hE.1 (fun t ht hW => ⟨⟨some (rbI v), G, ad, rfl, hp, hn, fun w h => by cases h; exact rb_ok_i _ _, by rw [ht]; exact hP⟩, hS.F ht⟩) hS.2.2 hd hlk))
theorem rb_zret (C : rb_C Φ own cc nL fr lo mc ms) {Post : Option rb_V → rb_G → Prop} (hE : rb_E Φ (some .boolean) Post mc ms) {v : Int32} (hd : decode cc pc = .ok (.ireturn, 1)) (hz : narrow .boolean (.int v) = .int v) (hc : cells ≤ mc) (hs : slots ≤ ms) (hp : Post (some (rbI v)) G) : rb_W Φ cells slots pc Lv [rbI v] G := by
  obtain ⟨p, l, e, R, s, m, args, below, meth, c, Q, X, A, ad0, G0⟩ := Φ
  intro ad H locs ls hP hn hS hl ho hv
  have hlk : meth.locks = false := C.2.2.2.2.2.1
  exact W.widen hc hs (hE.2 H locs _ (W.zret C.1 C.2.1 hE.1 hz (fun t ht hW => ⟨⟨some (rbI v), G, ad, rfl, hp, hn, fun w h => by cases h; exact rb_ok_i _ _, by rw [ht]; exact hP⟩, hS.F ht⟩) hS.2.2 hd hlk))
theorem rb_vret (C : rb_C Φ own cc nL fr lo mc ms) {Post : Option rb_V → rb_G → Prop} (hE : rb_E Φ none Post mc ms) (hd : decode cc pc = .ok (.return_, 1)) (hc : cells ≤ mc) (hs : slots ≤ ms) (hp : Post none G) : rb_W Φ cells slots pc Lv [] G := by
  obtain ⟨p, l, e, R, s, m, args, below, meth, c, Q, X, A, ad0, G0⟩ := Φ
  intro ad H locs ls hP hn hS hl ho hv
  have hlk : meth.locks = false := C.2.2.2.2.2.1
  exact W.widen hc hs (hE.2 H locs _ (W.vret C.1 C.2.1 hE.1 (fun t ht hW => ⟨⟨none, G, ad, rfl, hp, hn, (fun w h => nomatch h), by rw [ht]; exact hP⟩, hS.F ht⟩) hS.2.2 hd hlk))
theorem rb_aret (C : rb_C Φ own cc nL fr lo mc ms) {Post : Option rb_V → rb_G → Prop} {rt : FieldType} (hE : rb_E Φ (some rt) Post mc ms) (hrt : (∃ n, rt = .object n) ∨ ∃ t, rt = .array t) {o : Option rb_R} (hd : decode cc pc = .ok (.areturn, 1)) (hc : cells ≤ mc) (hs : slots ≤ ms) (hp : Post (some (rbO o)) G) : rb_W Φ cells slots pc Lv [rbO o] G := by
  obtain ⟨p, l, e, R, s, m, args, below, meth, c, Q, X, A, ad0, G0⟩ := Φ
  intro ad H locs ls hP hn hS hl ho hv
  have hlk : meth.locks = false := C.2.2.2.2.2.1
  exact W.widen hc hs (hE.2 H locs _ (W.aret C.1 C.2.1 hE.1 hrt (va_rf_or (o.map ad)) (fun t ht hW => ⟨⟨some (rbO o), G, ad, rfl, hp, hn, fun w h => by cases h; exact ho.hd, by rw [ht]; exact hP⟩, hS.F ht⟩) hS.2.2 hd hlk))
/-- an exception that goes through -/
theorem rb_out (C : rb_C Φ own cc nL fr lo mc ms) {PX : String → rb_G → Prop} (hE : rb_EX Φ PX mc ms) {E : String} (hc : cells ≤ mc) (hs : slots ≤ ms) (hp : PX E G) : rb_Wx Φ cells slots pc Lv st G E := by
  obtain ⟨p, l, e, R, s, m, args, below, meth, c, Q, X, A, ad0, G0⟩ := Φ
  intro ad H locs ls q ce hP hn hS hl ho hv h1 h2 h3
  obtain ⟨ht, Qc, hQ⟩ := hE
  subst hQ
  exact vx_out (fun x hx => (ht x hx).elim) C.2.2.2.2.2.1 h1 h2 h3 (fun t ht hvm => ⟨⟨G, ad, hp, hn, by rw [ht]; exact hP⟩, hS.F ht⟩) hS.2.2 hc hs
end
end
section
/-! heap rows -/
theorem rb_P.upd {X : rb_X} {ad : rb_R → Nat} {A : Nat → Prop} {G G' : rb_G} {H H1 : Heap} {r : rb_R} (hP : rb_P X ad A G H) (hr : gD G r) (hk : rb_k r.1 < 20) (he : va_at X.1 vwCl (ad r, rb_e ad X.2.1 G' r) H1) (oq : ∀ q : Nat, q ≠ ad r → H1[q]? = H[q]?) (hD : gD G' = gD G)
    (hs : ∀ r', r' ≠ r → rb_e ad X.2.1 G' r' = rb_e ad X.2.1 G r') (hcl : ∀ r1 k r2, gD G r1 → gP G' r1 k = some r2 → gD G r2) : rb_P X ad A G' H1 := by
  obtain ⟨h1, h2, h3, h4, h5⟩ := hP
  refine ⟨fun r' hr' hk' => ?_, fun r1 r2 a b => ?_, fun r1 k r2 a b => ?_, h4, h5⟩
  · rw [hD] at hr'
    obtain ⟨g1, g2⟩ := h1 r' hr' hk'
    refine ⟨g1, ?_⟩
    by_cases e : r' = r
    · subst e; exact he
    · rw [hs r' e]
      exact g2.kept (oq _ fun q => e (h2 r' r hr' hr hk' hk q))
  · rw [hD] at a b
    exact h2 r1 r2 a b
  · rw [hD] at a ⊢
    exact hcl r1 k r2 a b
theorem rb_e_sI {ad : rb_R → Nat} {cA : Nat → ClassId} {G : rb_G} {r : rb_R} {k : Nat} {v : Int32} {r' : rb_R} (h : r' ≠ r) : rb_e ad cA (sI G r k v) r' = rb_e ad cA G r' := by
  have e : gI (sI G r k v) r' = gI G r' := by funext j; exact up2_n _ _ _ _ (fun q => h q.1)
  unfold rb_e
  rw [e]
  rfl
theorem rb_e_sP {ad : rb_R → Nat} {cA : Nat → ClassId} {G : rb_G} {r : rb_R} {k : Nat} {v : Option rb_R} {r' : rb_R} (h : r' ≠ r) : rb_e ad cA (sP G r k v) r' = rb_e ad cA G r' := by
  have e : gP (sP G r k v) r' = gP G r' := by funext j; exact up2_n _ _ _ _ (fun q => h q.1)
  unfold rb_e
  rw [e]
  rfl
theorem rb_e_sJ {ad : rb_R → Nat} {cA : Nat → ClassId} {G : rb_G} {r : rb_R} {k : Nat} {v : Int64} {r' : rb_R} (h : r' ≠ r) : rb_e ad cA (sJ G r k v) r' = rb_e ad cA G r' := by
  have e : gJ (sJ G r k v) r' = gJ G r' := by funext j; exact up2_n _ _ _ _ (fun q => h q.1)
  unfold rb_e
  rw [e]
  rfl
theorem rb_cl_sP {G : rb_G} {r : rb_R} {k0 : Nat} {o : Option rb_R} (h3 : ∀ r1 k r2, gD G r1 → gP G r1 k = some r2 → gD G r2) (ho : ∀ r', o = some r' → gD G r') : ∀ r1 k r2, gD G r1 → gP (sP G r k0 o) r1 k = some r2 → gD G r2 := by
  intro r1 k r2 a b
  have b' : up2 (gP G) r k0 o r1 k = some r2 := b
  unfold up2 at b'
  split at b'
  · exact ho r2 b'
  · exact h3 r1 k r2 a b'
theorem rb_ok_o {G : rb_G} {o : Option rb_R} (h : rb_ok G (rbO o)) : ∀ r', o = some r' → gD G r' := fun r' e => h r' (by rw [e])
/-- a field: by its pool number, its class's number in vwCl, its place, whether a reference, whether final, its type -/
def rb_Fld (own : String) (idx ci k : Nat) (b fin : Bool) (ty : FieldType) : Prop := ∃ (RC : String) (TT : u_T) (N : Nat) (ty0 : Nat → FieldType), vwCl[ci]? = some (RC, TT, N) ∧ (∀ w ∈ u_ws RC TT N, w ∈ TS) ∧ k < N ∧ (rb_lay ci)[k]? = some b ∧ ci < 10 ∧
  Cond.fieldLink own idx (TT k).1 (TT k).2.1 (TT k).2.2.1 ∈ TS ∧ (∀ k, k < N → parseFieldDescriptor (TT k).2.2.1 = some (ty0 k)) ∧ (∀ a, a < N → ∀ b, b < N → a ≠ b → (TT a).2.1 ≠ (TT b).2.1) ∧ parseFieldDescriptor (TT k).2.2.1 = some ty ∧ (TT k).2.2.2 = fin ∧ (fin = true → (TT k).1 = own)
/-- .. to be read alone -/
def rb_FldR (own : String) (idx ci k : Nat) (b : Bool) : Prop := ∃ (RC : String) (TT : u_T) (N : Nat), vwCl[ci]? = some (RC, TT, N) ∧ (∀ w ∈ u_ws RC TT N, w ∈ TS) ∧ k < N ∧ (rb_lay ci)[k]? = some b ∧ ci < 10 ∧ Cond.fieldLink own idx (TT k).1 (TT k).2.1 (TT k).2.2.1 ∈ TS
theorem rb_Fld.r {own : String} {idx ci k : Nat} {b fin : Bool} {ty : FieldType} (h : rb_Fld own idx ci k b fin ty) : rb_FldR own idx ci k b := by
  obtain ⟨RC, TT, N, ty0, h1, h2, h3, h4, h5, h6, -⟩ := h
  exact ⟨RC, TT, N, h1, h2, h3, h4, h5, h6⟩
def rb_rt (ty : FieldType) : Bool := match ty with
  | .object _ => true
  | .array _ => true
  | _ => false
theorem rb_rt_fit {ty : FieldType} (h : rb_rt ty = true) (o : Option Nat) : narrow ty (va_rf o) = va_rf o ∧ fits ty (va_rf o) = true := by
  cases ty <;> first | (simp [rb_rt] at h; done) | (cases o <;> exact ⟨rfl, rfl⟩)
section
variable {Φ : rb_F} {own : String} {cc : ByteArray} {nL fr lo mc ms cells slots pc : Nat} {Lv Lv' : List (Option rb_V)} {st : List rb_V} {G : rb_G}
theorem rb_eo {ad : rb_R → Nat} {cA : Nat → ClassId} {G : rb_G} {r : rb_R} {ci : Nat} (hk : rb_k r.1 = ci) (h : ci < 10) : rb_e ad cA G r = .inr (ci, rb_vals (rb_c ad) (rb_lay ci) 0 (gI G r) (gP G r)) := by
  unfold rb_e
  rw [hk, if_pos h]
theorem rb_eI {ad : rb_R → Nat} {cA : Nat → ClassId} {G : rb_G} {r : rb_R} {ci : Nat} (hk : rb_k r.1 = ci) (h : ¬ ci < 10) (h2 : ci < 12) : rb_e ad cA G r = .inl (cA ci, gN G r, .inl (gI G r)) := by
  unfold rb_e
  rw [hk, if_neg h, if_pos h2]
theorem rb_eL {ad : rb_R → Nat} {cA : Nat → ClassId} {G : rb_G} {r : rb_R} (hk : rb_k r.1 = 12) : rb_e ad cA G r = .inl (cA 12, gN G r, .inr (.inl (gJ G r))) := by
  unfold rb_e
  rw [hk]
  rfl
theorem rb_eP {ad : rb_R → Nat} {cA : Nat → ClassId} {G : rb_G} {r : rb_R} {ci : Nat} (hk : rb_k r.1 = ci) (h : 12 < ci) : rb_e ad cA G r = .inl (cA ci, gN G r, .inr (.inr (.inr (.inr (fun j => (gP G r j).map ad))))) := by
  unfold rb_e
  rw [hk, if_neg (by omega), if_neg (by omega), if_neg (by omega)]
theorem rb_one {D : va_G} {cl : List vw_C} {q : Nat × va_E} {H : Heap} (h : va_at D cl q H) : va_P D cl [q] H := by
  intro k x hx
  cases k with
  | zero => cases hx; exact h
  | succ k => simp at hx
theorem rb_getI (C : rb_C Φ own cc nL fr lo mc ms) {r : rb_R} {idx ci k : Nat} (F : rb_FldR own idx ci k false) (hd : decode cc pc = .ok (.getfield idx, 3)) (hk : rb_k r.1 = ci) (kk : rb_W Φ cells slots (pc + 3) Lv (rbI (gI G r k) :: st) G) : rb_W Φ cells slots pc Lv (rbR r :: st) G := by
  obtain ⟨p, l, e, R, s, m, args, below, meth, c, Q, X, A, ad0, G0⟩ := Φ
  intro ad H locs ls hP hn hS hl ho hv
  obtain ⟨RC, TT, N, hc, hin, hkN, hb, hci, hlk⟩ := F
  have hr := ho.hd r rfl
  obtain ⟨-, hat⟩ := hP.1 r hr (by rw [hk]; omega)
  rw [rb_eo hk hci] at hat
  refine va_get (C := RC) (T := TT) (N := N) (ci := ci) C.1 C.2.1 C.2.2.2.2.1 hin C.2.2.2.1 C.2.2.2.2.2.2.2.2.1.1 (rb_one hat) 0 rfl hc k hkN (C.2.2.2.2.1 _ hlk) (fun _ h => h) (v := .int (gI G r k)) ?_ hd (kk ad H locs ls hP hn hS hl (ho.tl.cons (rb_ok_i _ _)) hv)
  rw [rb_vals_get, hb, Nat.zero_add]
  rfl
theorem rb_getP (C : rb_C Φ own cc nL fr lo mc ms) {r : rb_R} {idx ci k : Nat} (F : rb_FldR own idx ci k true) (hd : decode cc pc = .ok (.getfield idx, 3)) (hk : rb_k r.1 = ci) {o : Option rb_R} (hv0 : gP G r k = o) (kk : rb_W Φ cells slots (pc + 3) Lv (rbO o :: st) G) : rb_W Φ cells slots pc Lv (rbR r :: st) G := by
  subst hv0
  obtain ⟨p, l, e, R, s, m, args, below, meth, c, Q, X, A, ad0, G0⟩ := Φ
  intro ad H locs ls hP hn hS hl ho hv
  obtain ⟨RC, TT, N, hc, hin, hkN, hb, hci, hlk⟩ := F
  have hr := ho.hd r rfl
  obtain ⟨-, hat⟩ := hP.1 r hr (by rw [hk]; omega)
  rw [rb_eo hk hci] at hat
  refine va_get (C := RC) (T := TT) (N := N) (ci := ci) C.1 C.2.1 C.2.2.2.2.1 hin C.2.2.2.1 C.2.2.2.2.2.2.2.2.1.1 (rb_one hat) 0 rfl hc k hkN (C.2.2.2.2.1 _ hlk) (fun _ h => h) (v := rb_c ad (rbO (gP G r k))) ?_ hd (kk ad H locs ls hP hn hS hl (ho.tl.cons (fun r' e => hP.2.2.1 r k r' hr (by cases hq : gP G r k with | none => rw [hq] at e; cases e | some z => rw [hq] at e; cases e; rfl))) hv)
  rw [rb_vals_get, hb, Nat.zero_add]
  rfl
theorem rb_putI (C : rb_C Φ own cc nL fr lo mc ms) {r : rb_R} {v : Int32} {idx ci k : Nat} {ty : FieldType} (F : rb_Fld own idx ci k false false ty) (hd : decode cc pc = .ok (.putfield idx, 3)) (hk : rb_k r.1 = ci) (hnf : narrow ty (.int v) = .int v ∧ fits ty (.int v) = true) (kk : rb_W Φ cells slots (pc + 3) Lv st (sI G r k v)) : rb_W Φ cells slots pc Lv (rbI v :: rbR r :: st) G := by
  obtain ⟨p, l, e, R, s, m, args, below, meth, c, Q, X, A, ad0, G0⟩ := Φ
  intro ad H locs ls hP hn hS hl ho hv
  obtain ⟨RC, TT, N, ty0, hc, hin, hkN, hb, hci, hlk, hty, hnm, hd9, hf9, -⟩ := F
  have hr := ho.tl.hd r rfl
  have hk20 : rb_k r.1 < 20 := by rw [hk]; omega
  obtain ⟨hAr, hat⟩ := hP.1 r hr hk20
  rw [rb_eo hk hci] at hat
  obtain ⟨r9, h1, cell, q1, q2, q3, q4⟩ := hat
  cases Option.some.inj (h1.symm.trans hc)
  obtain ⟨hS9, hfc, kC, hkC, hkind⟩ := C.2.2.2.2.2.2.2.2.1.1.1 ci _ hc
  obtain ⟨cf, kf, fi, f, hi, hsl⟩ := hS9 k hkN
  have hap := va_apart (own := own) C.2.2.2.2.1 hin ty0 hty hnm C.2.2.2.2.2.2.2.2.1.1 hc
  have hlay := C.2.2.2.2.1 _ (hin _ (u_in_lay hkN))
  unfold u_lay at hlay
  rw [if_neg (by rw [hf9]; decide)] at hlay
  have hst := (u_facts hfc hkC (u_lays C.2.2.2.2.1 hin hkN) hi).1
  have h6 := u_store hfc hkC hkind hlay hi hd9 hnf.1 hnf.2
  refine W.putK C.1 C.2.1 (f := f) ⟨C.2.2.2.1, C.2.2.2.2.1 _ hlk, ⟨_, _, _, hi⟩, hst⟩ (by rw [q2]; exact h6) q1 q3 (by rw [hsl]; exact k2_hasslot (q4 k hkN)) rfl rfl hd fun H' e1 e2 e3 => ?_
  rw [hsl] at e1 ⊢
  have hlen : k < (rb_vals (rb_c ad) (rb_lay ci) 0 (gI G r) (gP G r)).length := by rw [rb_vals_len]; exact (List.getElem?_eq_some_iff.mp hb).1
  refine kk ad H' _ ls (hP.upd hr hk20 ?_ e3 rfl (fun r' h => rb_e_sI h) hP.2.2.1) hn (hS.put e2 e3 hAr) hl ho.tl.tl hv
  rw [rb_eo hk hci]
  refine ⟨_, hc, t_OB.to (V := updV (vp_V (rb_vals (rb_c ad) (rb_lay ci) 0 (gI G r) (gP G r))) k (.int v)) ⟨_, e1, q2, q3, t_set q4 hap hkN _⟩ (fun j _ => ?_)⟩
  rw [vp_updV_set hlen]
  exact congrArg (fun l => vp_V l j) (rb_vals_setI (rb_c ad) (gI G r) (gI (sI G r k v) r) (gP G r) (rb_lay ci) k v hb (up2_s _ _ _ _) (fun j hj => up2_n _ _ _ _ (fun q => hj q.2)))
theorem rb_putP (C : rb_C Φ own cc nL fr lo mc ms) {r : rb_R} {o : Option rb_R} {idx ci k : Nat} {ty : FieldType} (F : rb_Fld own idx ci k true false ty) (hd : decode cc pc = .ok (.putfield idx, 3)) (hk : rb_k r.1 = ci) (hrt : rb_rt ty = true) (kk : rb_W Φ cells slots (pc + 3) Lv st (sP G r k o)) : rb_W Φ cells slots pc Lv (rbO o :: rbR r :: st) G := by
  obtain ⟨p, l, e, R, s, m, args, below, meth, c, Q, X, A, ad0, G0⟩ := Φ
  intro ad H locs ls hP hn hS hl ho hv
  obtain ⟨RC, TT, N, ty0, hc, hin, hkN, hb, hci, hlk, hty, hnm, hd9, hf9, -⟩ := F
  have hr := ho.tl.hd r rfl
  have hk20 : rb_k r.1 < 20 := by rw [hk]; omega
  obtain ⟨hAr, hat⟩ := hP.1 r hr hk20
  rw [rb_eo hk hci] at hat
  obtain ⟨r9, h1, cell, q1, q2, q3, q4⟩ := hat
  cases Option.some.inj (h1.symm.trans hc)
  obtain ⟨hS9, hfc, kC, hkC, hkind⟩ := C.2.2.2.2.2.2.2.2.1.1.1 ci _ hc
  obtain ⟨cf, kf, fi, f, hi, hsl⟩ := hS9 k hkN
  have hap := va_apart (own := own) C.2.2.2.2.1 hin ty0 hty hnm C.2.2.2.2.2.2.2.2.1.1 hc
  have hlay := C.2.2.2.2.1 _ (hin _ (u_in_lay hkN))
  unfold u_lay at hlay
  rw [if_neg (by rw [hf9]; decide)] at hlay
  have hst := (u_facts hfc hkC (u_lays C.2.2.2.2.1 hin hkN) hi).1
  have hnf := rb_rt_fit hrt (o.map ad)
  have h6 := u_store hfc hkC hkind hlay hi hd9 hnf.1 hnf.2
  refine W.putK C.1 C.2.1 (f := f) (v := va_rf (o.map ad)) ⟨C.2.2.2.1, C.2.2.2.2.1 _ hlk, ⟨_, _, _, hi⟩, hst⟩ (by rw [q2]; exact h6) q1 q3 (by rw [hsl]; exact k2_hasslot (q4 k hkN)) rfl rfl hd fun H' e1 e2 e3 => ?_
  rw [hsl] at e1 ⊢
  have hlen : k < (rb_vals (rb_c ad) (rb_lay ci) 0 (gI G r) (gP G r)).length := by rw [rb_vals_len]; exact (List.getElem?_eq_some_iff.mp hb).1
  refine kk ad H' _ ls (hP.upd hr hk20 ?_ e3 rfl (fun r' h => rb_e_sP h) (rb_cl_sP hP.2.2.1 (rb_ok_o ho.hd))) hn (hS.put e2 e3 hAr) hl ho.tl.tl hv
  rw [rb_eo hk hci]
  refine ⟨_, hc, t_OB.to (V := updV (vp_V (rb_vals (rb_c ad) (rb_lay ci) 0 (gI G r) (gP G r))) k (va_rf (o.map ad))) ⟨_, e1, q2, q3, t_set q4 hap hkN _⟩ (fun j _ => ?_)⟩
  rw [vp_updV_set hlen]
  exact congrArg (fun l => vp_V l j) (rb_vals_setP (rb_c ad) (gI G r) (gP G r) (gP (sP G r k o) r) (rb_lay ci) k o hb (up2_s _ _ _ _) (fun j hj => up2_n _ _ _ _ (fun q => hj q.2)))
theorem rb_putFI (C : rb_C Φ own cc nL fr lo mc ms) (hin2 : rb_nm Φ "<init>") {r : rb_R} {v : Int32} {idx ci k : Nat} {ty : FieldType} (F : rb_Fld own idx ci k false true ty) (hd : decode cc pc = .ok (.putfield idx, 3)) (hk : rb_k r.1 = ci) (hnf : narrow ty (.int v) = .int v ∧ fits ty (.int v) = true) (kk : rb_W Φ cells slots (pc + 3) Lv st (sI G r k v)) : rb_W Φ cells slots pc Lv (rbI v :: rbR r :: st) G := by
  obtain ⟨p, l, e, R, s, m, args, below, meth, c, Q, X, A, ad0, G0⟩ := Φ
  intro ad H locs ls hP hn hS hl ho hv
  obtain ⟨RC, TT, N, ty0, hc, hin, hkN, hb, hci, hlk, hty, hnm, hd9, hf9, hdecl⟩ := F
  have hr := ho.tl.hd r rfl
  have hk20 : rb_k r.1 < 20 := by rw [hk]; omega
  obtain ⟨hAr, hat⟩ := hP.1 r hr hk20
  rw [rb_eo hk hci] at hat
  obtain ⟨r9, h1, cell, q1, q2, q3, q4⟩ := hat
  cases Option.some.inj (h1.symm.trans hc)
  obtain ⟨hS9, hfc, kC, hkC, hkind⟩ := C.2.2.2.2.2.2.2.2.1.1.1 ci _ hc
  obtain ⟨cf, kf, fi, f, hi, hsl⟩ := hS9 k hkN
  have hap := va_apart (own := own) C.2.2.2.2.1 hin ty0 hty hnm C.2.2.2.2.2.2.2.2.1.1 hc
  have hlay := C.2.2.2.2.1 _ (hin _ (u_in_lay hkN))
  unfold u_lay at hlay
  rw [if_pos hf9] at hlay
  have hst := (u_facts hfc hkC (u_lays C.2.2.2.2.1 hin hkN) hi).1
  have hcf : m.cls = cf := by
    obtain ⟨_, _, c', _, _, _, -, -, hf', -, -, -, hown2, -⟩ := Cond.laysFinal_spec hlay
    have e1 : c' = cf := by have := hi.symm.trans hf'; simp at this; exact this.1.symm
    rw [hdecl rfl] at hown2
    rw [← e1]; exact Option.some.inj (C.2.2.2.1.symm.trans hown2)
  have h6 := u_fits hfc hkC hkind (Or.inr hlay) hi hd9 hnf.1 hnf.2
  refine W.putFinK C.1 C.2.1 C.2.2.2.1 (C.2.2.2.2.1 _ hlk) hi hst hcf hin2 (by rw [q2]; exact h6) q1 q3 (by rw [hsl]; exact k2_hasslot (q4 k hkN)) rfl rfl hd fun H' e1 e2 e3 => ?_
  rw [hsl] at e1 ⊢
  have hlen : k < (rb_vals (rb_c ad) (rb_lay ci) 0 (gI G r) (gP G r)).length := by rw [rb_vals_len]; exact (List.getElem?_eq_some_iff.mp hb).1
  refine kk ad H' _ ls (hP.upd hr hk20 ?_ e3 rfl (fun r' h => rb_e_sI h) hP.2.2.1) hn (hS.put e2 e3 hAr) hl ho.tl.tl hv
  rw [rb_eo hk hci]
  refine ⟨_, hc, t_OB.to (V := updV (vp_V (rb_vals (rb_c ad) (rb_lay ci) 0 (gI G r) (gP G r))) k (.int v)) ⟨_, e1, q2, q3, t_set q4 hap hkN _⟩ (fun j _ => ?_)⟩
  rw [vp_updV_set hlen]
  exact congrArg (fun l => vp_V l j) (rb_vals_setI (rb_c ad) (gI G r) (gI (sI G r k v) r) (gP G r) (rb_lay ci) k v hb (up2_s _ _ _ _) (fun j hj => up2_n _ _ _ _ (fun q => hj q.2)))
theorem rb_putFP (C : rb_C Φ own cc nL fr lo mc ms) (hin2 : rb_nm Φ "<init>") {r : rb_R} {o : Option rb_R} {idx ci k : Nat} {ty : FieldType} (F : rb_Fld own idx ci k true true ty) (hd : decode cc pc = .ok (.putfield idx, 3)) (hk : rb_k r.1 = ci) (hrt : rb_rt ty = true) (kk : rb_W Φ cells slots (pc + 3) Lv st (sP G r k o)) : rb_W Φ cells slots pc Lv (rbO o :: rbR r :: st) G := by
  obtain ⟨p, l, e, R, s, m, args, below, meth, c, Q, X, A, ad0, G0⟩ := Φ
  intro ad H locs ls hP hn hS hl ho hv
  obtain ⟨RC, TT, N, ty0, hc, hin, hkN, hb, hci, hlk, hty, hnm, hd9, hf9, hdecl⟩ := F
  have hr := ho.tl.hd r rfl
  have hk20 : rb_k r.1 < 20 := by rw [hk]; omega
  obtain ⟨hAr, hat⟩ := hP.1 r hr hk20
  rw [rb_eo hk hci] at hat
  obtain ⟨r9, h1, cell, q1, q2, q3, q4⟩ := hat
  cases Option.some.inj (h1.symm.trans hc)
  obtain ⟨hS9, hfc, kC, hkC, hkind⟩ := C.2.2.2.2.2.2.2.2.1.1.1 ci _ hc
  obtain ⟨cf, kf, fi, f, hi, hsl⟩ := hS9 k hkN
  have hap := va_apart (own := own) C.2.2.2.2.1 hin ty0 hty hnm C.2.2.2.2.2.2.2.2.1.1 hc
  have hlay := C.2.2.2.2.1 _ (hin _ (u_in_lay hkN))
  unfold u_lay at hlay
  rw [if_pos hf9] at hlay
  have hst := (u_facts hfc hkC (u_lays C.2.2.2.2.1 hin hkN) hi).1
  have hcf : m.cls = cf := by
    obtain ⟨_, _, c', _, _, _, -, -, hf', -, -, -, hown2, -⟩ := Cond.laysFinal_spec hlay
    have e1 : c' = cf := by have := hi.symm.trans hf'; simp at this; exact this.1.symm
    rw [hdecl rfl] at hown2
    rw [← e1]; exact Option.some.inj (C.2.2.2.1.symm.trans hown2)
  have hnf := rb_rt_fit hrt (o.map ad)
  have h6 := u_fits hfc hkC hkind (Or.inr hlay) hi hd9 hnf.1 hnf.2
  refine W.putFinK C.1 C.2.1 (v := va_rf (o.map ad)) C.2.2.2.1 (C.2.2.2.2.1 _ hlk) hi hst hcf hin2 (by rw [q2]; exact h6) q1 q3 (by rw [hsl]; exact k2_hasslot (q4 k hkN)) rfl rfl hd fun H' e1 e2 e3 => ?_
  rw [hsl] at e1 ⊢
  have hlen : k < (rb_vals (rb_c ad) (rb_lay ci) 0 (gI G r) (gP G r)).length := by rw [rb_vals_len]; exact (List.getElem?_eq_some_iff.mp hb).1
  refine kk ad H' _ ls (hP.upd hr hk20 ?_ e3 rfl (fun r' h => rb_e_sP h) (rb_cl_sP hP.2.2.1 (rb_ok_o ho.hd))) hn (hS.put e2 e3 hAr) hl ho.tl.tl hv
  rw [rb_eo hk hci]
  refine ⟨_, hc, t_OB.to (V := updV (vp_V (rb_vals (rb_c ad) (rb_lay ci) 0 (gI G r) (gP G r))) k (va_rf (o.map ad))) ⟨_, e1, q2, q3, t_set q4 hap hkN _⟩ (fun j _ => ?_)⟩
  rw [vp_updV_set hlen]
  exact congrArg (fun l => vp_V l j) (rb_vals_setP (rb_c ad) (gI G r) (gP G r) (gP (sP G r k o) r) (rb_lay ci) k o hb (up2_s _ _ _ _) (fun j hj => up2_n _ _ _ _ (fun q => hj q.2)))
/-- arrays: reads -/
theorem rb_iald (C : rb_C Φ own cc nL fr lo mc ms) {r : rb_R} {i : Int32} (hd : decode cc pc = .ok (.iaload, 1)) (hk : rb_k r.1 = 10) (hi : vp_in i (gN G r)) (kk : rb_W Φ cells slots (pc + 1) Lv (rbI (gI G r i.toNatClampNeg) :: st) G) : rb_W Φ cells slots pc Lv (rbI i :: rbR r :: st) G := by
  obtain ⟨p, l, e, R, s, m, args, below, meth, c, Q, X, A, ad0, G0⟩ := Φ
  intro ad H locs ls hP hn hS hl ho hv
  obtain ⟨-, hat⟩ := hP.1 r (ho.tl.hd r rfl) (by rw [hk]; decide)
  rw [rb_eI hk (by decide) (by decide)] at hat
  exact va_iald C.1 C.2.1 C.2.2.2.2.2.2.2.2.1.1 (rb_one hat) 0 0 rfl rfl hi hd (kk ad H locs ls hP hn hS hl (ho.tl.tl.cons (rb_ok_i _ _)) hv)
/-- the places of the rows of references: number in rb_tys, component -/
def rb_cp (k : Nat) : String := if k = 13 then "java/lang/Object" else if k = 14 then RX5 else RX0
theorem rb_tys_q (cA : Nat → ClassId) {k : Nat} (h1 : 12 < k) (h2 : k < 16) : (rb_tys cA)[k - 12]? = some (cA k, .object (rb_cp k)) := by
  rcases (by omega : k = 13 ∨ k = 14 ∨ k = 15) with rfl | rfl | rfl <;> rfl
theorem rb_aald (C : rb_C Φ own cc nL fr lo mc ms) {r : rb_R} {i : Int32} {k : Nat} (hd : decode cc pc = .ok (.aaload, 1)) (hk : rb_k r.1 = k) (h1 : 12 < k) (h2 : k < 16) (hi : vp_in i (gN G r)) {o : Option rb_R} (hv0 : gP G r i.toNatClampNeg = o) (kk : rb_W Φ cells slots (pc + 1) Lv (rbO o :: st) G) : rb_W Φ cells slots pc Lv (rbI i :: rbR r :: st) G := by
  subst hv0
  obtain ⟨p, l, e, R, s, m, args, below, meth, c, Q, X, A, ad0, G0⟩ := Φ
  intro ad H locs ls hP hn hS hl ho hv
  have hr := ho.tl.hd r rfl
  obtain ⟨-, hat⟩ := hP.1 r hr (by rw [hk]; omega)
  rw [rb_eP hk h1] at hat
  exact va_aldq C.1 C.2.1 C.2.2.2.2.2.2.2.2.1.1 (rb_one hat) 0 (k - 12) rfl (rb_tys_q _ h1 h2) hi hd (kk ad H locs ls hP hn hS hl (ho.tl.tl.cons (fun r' e => hP.2.2.1 r _ r' hr (by cases hq : gP G r i.toNatClampNeg with | none => rw [hq] at e; cases e | some z => rw [hq] at e; cases e; rfl))) hv)
theorem rb_alen (C : rb_C Φ own cc nL fr lo mc ms) {r : rb_R} {k : Nat} (hd : decode cc pc = .ok (.arraylength, 1)) (hk : rb_k r.1 = k) (h1 : k = 10 ∨ 12 < k) (h2 : k < 16) (kk : rb_W Φ cells slots (pc + 1) Lv (rbI (nI (gN G r)) :: st) G) : rb_W Φ cells slots pc Lv (rbR r :: st) G := by
  obtain ⟨p, l, e, R, s, m, args, below, meth, c, Q, X, A, ad0, G0⟩ := Φ
  intro ad H locs ls hP hn hS hl ho hv
  have hr := ho.hd r rfl
  obtain ⟨-, hat⟩ := hP.1 r hr (by rw [hk]; omega)
  have hk9 := kk ad H locs ls hP hn hS hl (ho.tl.cons (rb_ok_i _ _)) hv
  rcases h1 with rfl | h3
  · rw [rb_eI hk (by decide) (by decide)] at hat
    exact va_alen C.1 C.2.1 C.2.2.2.2.2.2.2.2.1.1 (rb_one hat) 0 0 rfl (ty := .int) rfl rfl hd hk9
  · rw [rb_eP hk h3] at hat
    exact va_alen C.1 C.2.1 C.2.2.2.2.2.2.2.2.1.1 (rb_one hat) 0 (k - 12) rfl (rb_tys_q _ h3 h2) rfl hd hk9
/-- the empty row of ArrayList -/
theorem rb_alenE (C : rb_C Φ own cc nL fr lo mc ms) (hd : decode cc pc = .ok (.arraylength, 1)) (kk : rb_W Φ cells slots (pc + 1) Lv (rbI 0 :: st) G) : rb_W Φ cells slots pc Lv (rbR (19, 0, 0) :: st) G := by
  obtain ⟨p, l, e, R, s, m, args, below, meth, c, Q, X, A, ad0, G0⟩ := Φ
  intro ad H locs ls hP hn hS hl ho hv
  have h := kk ad H locs ls hP hn hS hl (ho.tl.cons (rb_ok_i _ _)) hv
  show W p l e R s m args below meth c H locs cells slots Q (F0 m pc ls (Value.ref (ad (19, 0, 0)) :: st.map (rb_c ad)))
  rw [hP.2.2.2.1]
  exact va_tlen C.1 C.2.1 C.2.2.2.2.2.2.2.2.2.1.2.2.2.1 hS (v := 0) rfl hd h
/-- arrays: writes -/
theorem rb_iast (C : rb_C Φ own cc nL fr lo mc ms) {r : rb_R} {i x : Int32} (hd : decode cc pc = .ok (.iastore, 1)) (hk : rb_k r.1 = 10) (hi : vp_in i (gN G r)) (kk : rb_W Φ cells slots (pc + 1) Lv st (sI G r i.toNatClampNeg x)) : rb_W Φ cells slots pc Lv (rbI x :: rbI i :: rbR r :: st) G := by
  obtain ⟨p, l, e, R, s, m, args, below, meth, c, Q, X, A, ad0, G0⟩ := Φ
  intro ad H locs ls hP hn hS hl ho hv
  have hr := ho.tl.tl.hd r rfl
  have hk20 : rb_k r.1 < 20 := by rw [hk]; decide
  obtain ⟨hAr, hat⟩ := hP.1 r hr hk20
  rw [rb_eI hk (by decide) (by decide)] at hat
  refine W.iast C.1 C.2.1 hat ((C.2.2.2.2.2.2.2.2.1.1.2 0 _ rfl).1 (gN G r) (fun j => .int (gI G r j))) (fun q => by cases q) (by show ¬ (i < 0 ∨ (arrV _ _ _).slots.size ≤ _); rw [arrV_size]; exact hi) rfl rfl hd fun H1 e1 e2 e3 => ?_
  refine kk ad H1 _ ls (hP.upd hr hk20 ?_ e3 rfl (fun r' h => rb_e_sI h) hP.2.2.1) hn (hS.put e2 e3 hAr) hl ho.tl.tl.tl hv
  rw [rb_eI hk (by decide) (by decide)]
  show H1[ad r]? = some (vp_cell _ _)
  rw [e1, vp_cell_i, vp_cell_i, arrV_store]
  congr 2
  funext q
  by_cases hq : q = i.toNatClampNeg
  · subst hq
    simp [updV, sI, gI, up2]
  · simp [updV, sI, gI, up2, hq]
/-- an object of class ci may lie in a row of kind k -/
def rb_fit2 (k ci : Nat) : Prop := (k = 14 ∧ ci = 6) ∨ (k = 15 ∧ ci = 1) ∨ (k = 13 ∧ (ci = 2 ∨ ci = 7 ∨ ci = 4 ∨ ci = 5))
theorem rb_aast (C : rb_C Φ own cc nL fr lo mc ms) {r v : rb_R} {i : Int32} {k ci : Nat} (hd : decode cc pc = .ok (.aastore, 1)) (hk : rb_k r.1 = k) (hkv : rb_k v.1 = ci) (hf : rb_fit2 k ci) (hi : vp_in i (gN G r)) (kk : rb_W Φ cells slots (pc + 1) Lv st (sP G r i.toNatClampNeg (some v))) : rb_W Φ cells slots pc Lv (rbR v :: rbI i :: rbR r :: st) G := by
  obtain ⟨p, l, e, R, s, m, args, below, meth, c, Q, X, A, ad0, G0⟩ := Φ
  intro ad H locs ls hP hn hS hl ho hv
  have hr := ho.tl.tl.hd r rfl
  have hrv := ho.hd v rfl
  have h12 : 12 < k ∧ k < 16 ∧ ci < 10 := by
    rcases hf with ⟨rfl, rfl⟩ | ⟨rfl, rfl⟩ | ⟨rfl, rfl | rfl | rfl | rfl⟩ <;> decide
  have hk20 : rb_k r.1 < 20 := by rw [hk]; omega
  obtain ⟨hAr, hat⟩ := hP.1 r hr hk20
  rw [rb_eP hk h12.1] at hat
  obtain ⟨-, hav⟩ := hP.1 v hrv (by rw [hkv]; omega)
  rw [rb_eo hkv h12.2.2] at hav
  have h0 : ¬ i < 0 := fun q => hi (Or.inl q)
  have hlt : i.toNatClampNeg < gN G r := Nat.not_le.mp fun q => hi (Or.inr q)
  have hK1 := C.2.2.2.2.2.2.2.2.1
  obtain ⟨r', hr', cellV, g1, g2, g3, -⟩ := hav
  obtain ⟨hArr, hRA⟩ := hK1.1.2 (k - 12) _ (rb_tys_q _ h12.1 h12.2.1)
  obtain ⟨kA, comp, k1, k2, k3, -⟩ := hRA
  have hcls := (hK1.1.1 ci r' hr').2
  obtain ⟨kC, hkC, hkind⟩ := hcls.2
  have hasg : s.vm.assignable (X.1.1 ci) comp = true := by
    have cst : ∀ nm : String, (nm, "java/lang/Object") ∈ rb_cst → s.vm.findClass nm = some (X.1.1 ci) → s.vm.findClass "java/lang/Object" = some comp → s.vm.assignable (X.1.1 ci) comp = true := by
      intro nm hm f1 f2
      obtain ⟨c0, t0, e1, e2, e3⟩ := Cond.castable_spec (va_Nw.use (A := #[]) rfl (hK1.2.2.1 _ hm))
      cases Option.some.inj (e1.symm.trans f1)
      cases Option.some.inj (e2.symm.trans f2)
      exact e3
    rcases hf with ⟨rfl, rfl⟩ | ⟨rfl, rfl⟩ | ⟨rfl, rfl | rfl | rfl | rfl⟩
    · cases Option.some.inj (hr'.symm.trans (rfl : vwCl[6]? = some (RX5, TX5, 7)))
      cases Option.some.inj (k3.symm.trans hcls.1)
      exact va_assign hcls
    · cases Option.some.inj (hr'.symm.trans (rfl : vwCl[1]? = some (RX0, TX0, 3)))
      cases Option.some.inj (k3.symm.trans hcls.1)
      exact va_assign hcls
    · cases Option.some.inj (hr'.symm.trans (rfl : vwCl[2]? = some (RX1, TX1, 7)))
      exact cst RX1 (by decide +kernel) hcls.1 k3
    · cases Option.some.inj (hr'.symm.trans (rfl : vwCl[7]? = some (RX6, TX6, 11)))
      exact cst RX6 (by decide +kernel) hcls.1 k3
    · cases Option.some.inj (hr'.symm.trans (rfl : vwCl[4]? = some (RX3, TX3, 4)))
      exact cst RX3 (by decide +kernel) hcls.1 k3
    · cases Option.some.inj (hr'.symm.trans (rfl : vwCl[5]? = some (RX4, TX4, 5)))
      exact cst RX4 (by decide +kernel) hcls.1 k3
  obtain ⟨kcomp, hkcomp, -⟩ := Vm.findClass_spec k3
  refine W.aast C.1 C.2.1 hat (fun q h => by cases h) (fun h => by cases h) k1 k2 rfl hkcomp ⟨h0, by show _ < (arrV _ _ _).slots.size; rw [arrV_size]; exact hlt⟩ g1 (fun q h => by rw [g3] at h; cases h) (by rw [g2]; exact hkC) (by rw [g2]; exact hasg) rfl rfl hd fun H1 e1 e2 e3 => ?_
  refine kk ad H1 _ ls (hP.upd hr hk20 ?_ e3 rfl (fun r' h => rb_e_sP h) (rb_cl_sP hP.2.2.1 (fun r2 e2 => by cases e2; exact hrv))) hn (hS.put e2 e3 hAr) hl ho.tl.tl.tl hv
  rw [rb_eP hk h12.1]
  show H1[ad r]? = some (vp_cell _ _)
  rw [e1, vp_cell_q, vp_cell_q, arrV_store]
  congr 2
  funext q
  by_cases hq : q = i.toNatClampNeg
  · subst hq
    simp [updV, sP, gP, up2, va_rf]
  · simp [updV, sP, gP, up2, hq]
end
end
section
/-! new cells -/
theorem rb_e_nx {ad ad' : rb_R → Nat} {cA : Nat → ClassId} {G G' : rb_G} {r : rb_R} (h : ∀ r', gD G r' → ad' r' = ad r') (hr : gD G r) (hcl : ∀ r1 k r2, gD G r1 → gP G r1 k = some r2 → gD G r2) (hN : gN G' r = gN G r) (hI : gI G' r = gI G r) (hP : gP G' r = gP G r) (hJ : gJ G' r = gJ G r) : rb_e ad' cA G' r = rb_e ad cA G r := by
  have e1 : ∀ k, rb_c ad' (rbO (gP G r k)) = rb_c ad (rbO (gP G r k)) := by
    intro k
    cases hq : gP G r k with
    | none => rfl
    | some z => show Value.ref (ad' z) = Value.ref (ad z); rw [h z (hcl r k z hr hq)]
  have e2 : ∀ l k0, rb_vals (rb_c ad') l k0 (gI G r) (gP G r) = rb_vals (rb_c ad) l k0 (gI G r) (gP G r) := by
    intro l k0
    apply List.ext_getElem?
    intro j
    rw [rb_vals_get, rb_vals_get, e1]
    rfl
  have e3 : (fun j => (gP G r j).map ad') = fun j => (gP G r j).map ad := by
    funext j
    cases hq : gP G r j with
    | none => rfl
    | some z => show some (ad' z) = some (ad z); rw [h z (hcl r j z hr hq)]
  unfold rb_e
  rw [hN, hI, hP, hJ, e2, e3]
theorem rb_ls.nx {G G' : rb_G} {ad ad' : rb_R → Nat} {ls : Array Slot} {Lv : List (Option rb_V)} (hn : rb_nx G ad G' ad') (hv : rb_okO G Lv) (h : rb_ls ad ls Lv) : rb_ls ad' ls Lv := by
  refine ⟨h.1, h.2.1, fun q hq => ?_⟩
  obtain ⟨k, v, h1, rfl⟩ := (rb_al_mem ad' Lv 0 q).mp hq
  refine h.2.2 _ ((rb_al_mem ad Lv 0 _).mpr ⟨k, v, h1, ?_⟩)
  rw [rb_c_nx hn (hv v (List.mem_of_getElem? h1))]
def rb_adN (ad : rb_R → Nat) (r : rb_R) (q : Nat) : rb_R → Nat := fun x => if x = r then q else ad x
theorem rb_nx.new {G : rb_G} {ad : rb_R → Nat} {r : rb_R} {n q : Nat} (hf : ¬ gD G r) : rb_nx G ad (sN G r n) (rb_adN ad r q) := fun x hx => ⟨Or.inr hx, by
  unfold rb_adN
  rw [if_neg (fun e => hf (by rw [← e]; exact hx))]⟩
theorem rb_P.new {X : rb_X} {ad : rb_R → Nat} {A : Nat → Prop} {G : rb_G} {H H1 : Heap} {r : rb_R} {n : Nat} (hP : rb_P X ad A G H) (hf : ¬ gD G r) (hk : rb_k r.1 < 20) (hA : A H.size) (ho : ∀ q : Nat, q < H.size → H1[q]? = H[q]?)
    (hat : va_at X.1 vwCl (H.size, rb_e (rb_adN ad r H.size) X.2.1 (sN G r n) r) H1) : rb_P X (rb_adN ad r H.size) A (sN G r n) H1 := by
  obtain ⟨h1, h2, h3, h4, h5⟩ := hP
  have hnx : ∀ r', gD G r' → rb_adN ad r H.size r' = ad r' := fun r' hr' => (rb_nx.new (n := n) (q := H.size) (ad := ad) hf r' hr').2
  have hself : rb_adN ad r H.size r = H.size := by unfold rb_adN; rw [if_pos rfl]
  refine ⟨fun r' hr' hk' => ?_, fun r1 r2 a b k1 k2 e => ?_, fun r1 k r2 a b => ?_, ?_, ?_⟩
  · by_cases e : r' = r
    · subst e
      rw [hself]
      exact ⟨hA, hat⟩
    · have hr0 : gD G r' := hr'.resolve_left e
      obtain ⟨g1, g2⟩ := h1 r' hr0 hk'
      rw [hnx r' hr0]
      refine ⟨g1, ?_⟩
      rw [rb_e_nx (ad := ad) (G := G) hnx hr0 h3 (by show (if r' = r then n else gN G r') = gN G r'; rw [if_neg e]) (by funext k; show (if r' = r then 0 else gI G r' k) = gI G r' k; rw [if_neg e]) (by funext k; show (if r' = r then none else gP G r' k) = gP G r' k; rw [if_neg e]) (by funext k; show (if r' = r then 0 else gJ G r' k) = gJ G r' k; rw [if_neg e])]
      exact g2.kept (ho _ g2.lt)
  · by_cases e1 : r1 = r
    · by_cases e2 : r2 = r
      · rw [e1, e2]
      · have hr0 : gD G r2 := b.resolve_left e2
        have := (h1 r2 hr0 k2).2.lt
        rw [e1, hself, hnx r2 hr0] at e
        have : ad r2 < H.size := this
        omega
    · have hr1 : gD G r1 := a.resolve_left e1
      by_cases e2 : r2 = r
      · have := (h1 r1 hr1 k1).2.lt
        rw [e2, hself, hnx r1 hr1] at e
        have : ad r1 < H.size := this
        omega
      · have hr2 : gD G r2 := b.resolve_left e2
        rw [hnx r1 hr1, hnx r2 hr2] at e
        exact h2 r1 r2 hr1 hr2 k1 k2 e
  · have b' : (if r1 = r then none else gP G r1 k) = some r2 := b
    split at b'
    · cases b'
    · exact Or.inr (h3 r1 k r2 (a.resolve_left (by assumption)) b')
  · unfold rb_adN
    rw [if_neg (fun e => by rw [← e] at hk; exact absurd hk (by decide))]
    exact h4
  · unfold rb_adN
    rw [if_neg (fun e => by rw [← e] at hk; exact absurd hk (by decide)), if_neg (fun e => by rw [← e] at hk; exact absurd hk (by decide))]
    exact h5
theorem va_S.new {A : Nat → Prop} {H0 H H1 : Heap} {locs : List Loc} (h : va_S A H0 H locs) (z : H1.size = H.size + 1) (o : ∀ q : Nat, q < H.size → H1[q]? = H[q]?) : va_S A H0 H1 locs :=
  ⟨Nat.le_trans h.1 (by omega), fun q h1 h2 => (o q (Nat.lt_of_lt_of_le h1 h.1)).trans (h.2.1 q h1 h2), h.2.2⟩
def rb_z : List Bool → List Value
  | [] => []
  | b :: t => (if b = true then Value.null else .int 0) :: rb_z t
theorem rb_vals_z (ad : rb_R → Nat) : ∀ (l : List Bool) (k0 : Nat), rb_vals (rb_c ad) l k0 (fun _ => 0) (fun _ => none) = rb_z l := by
  intro l
  induction l with
  | nil => intro k0; rfl
  | cons b t ih =>
    intro k0
    show (if b = true then Value.null else Value.int 0) :: rb_vals (rb_c ad) t (k0 + 1) (fun _ => 0) (fun _ => none) = _
    rw [ih]
    rfl
/-- a class that is made: by its pool number, its number in vwCl, its slots -/
def rb_Cls (own : String) (idx ci N : Nat) : Prop := ∃ (RC : String) (TT : u_T) (ty0 : Nat → FieldType), vwCl[ci]? = some (RC, TT, N) ∧ (∀ w ∈ u_ws RC TT N, w ∈ TS) ∧ ci < 10 ∧ Cond.classLink own idx RC ∈ TS ∧ Cond.instantiable RC N ∈ TS ∧ Cond.initialized RC ∈ TS ∧
  (∀ k, k < N → parseFieldDescriptor (TT k).2.2.1 = some (ty0 k)) ∧ ∀ j, j < N → defaultValue (ty0 j) = vp_V (rb_z (rb_lay ci)) j
section
variable {Φ : rb_F} {own : String} {cc : ByteArray} {nL fr lo mc ms cells slots pc : Nat} {Lv Lv' : List (Option rb_V)} {st rest As : List rb_V} {G : rb_G}
theorem sN_I {G : rb_G} {r : rb_R} {n : Nat} : gI (sN G r n) r = fun _ => 0 := by funext k; show (if r = r then 0 else _) = 0; rw [if_pos rfl]
theorem sN_P {G : rb_G} {r : rb_R} {n : Nat} : gP (sN G r n) r = fun _ => none := by funext k; show (if r = r then none else _) = none; rw [if_pos rfl]
theorem sN_J {G : rb_G} {r : rb_R} {n : Nat} : gJ (sN G r n) r = fun _ => 0 := by funext k; show (if r = r then 0 else _) = 0; rw [if_pos rfl]
theorem sN_N {G : rb_G} {r : rb_R} {n : Nat} : gN (sN G r n) r = n := by show (if r = r then n else _) = n; rw [if_pos rfl]
theorem rb_new (C : rb_C Φ own cc nL fr lo mc ms) (r : rb_R) {idx ci N : Nat} (F : rb_Cls own idx ci N) (hd : decode cc pc = .ok (.new idx, 3)) (hk : rb_k r.1 = ci) (hf : ¬ gD G r) (hc : cells + 1 ≤ mc) (hs : slots + N ≤ ms) (kk : rb_W Φ (cells + 1) (slots + N) (pc + 3) Lv (rbR r :: st) (sN G r 0)) : rb_W Φ cells slots pc Lv st G := by
  obtain ⟨p, l, e, R, s, m, args, below, meth, c, Q, X, A, ad0, G0⟩ := Φ
  intro ad H locs ls hP hn hS hl ho hv
  obtain ⟨RC, TT, ty0, hcl, hin, hci, hlk, hinst, hini, hty, hdef⟩ := F
  have hK1 := C.2.2.2.2.2.2.2.2.1
  have hR := C.2.2.2.2.2.2.1
  subst hR
  have hKn := hK1.1.1 ci _ hcl
  refine W.newcK C.1 C.2.1 C.2.2.2.1 (C.2.2.2.2.1 _ hlk) (C.2.2.2.2.1 _ hinst) (C.2.2.2.2.1 _ hini) rfl hd hc hs hKn.2.1 rfl fun H1 kC hkC e1 z1 o1 => ?_
  have hnx : rb_nx G ad (sN G r 0) (rb_adN ad r H.size) := rb_nx.new hf
  have hA : A H.size := C.2.2.2.2.2.2.2.2.2.2 _ hS.1
  have key : rb_P X (rb_adN ad r H.size) A (sN G r 0) H1 := by
    refine hP.new hf (by rw [hk]; omega) hA o1 ?_
    rw [rb_eo hk hci, sN_I, sN_P, rb_vals_z]
    exact ⟨_, hcl, (u_born ty0 C.2.2.2.2.1 hin hKn hkC e1 hty).to hdef⟩
  have hself : rb_adN ad r H.size r = H.size := by unfold rb_adN; rw [if_pos rfl]
  have h := kk (rb_adN ad r H.size) H1 locs ls key (hn.tr hnx) (hS.new z1 o1) (hl.nx hnx hv) ((ho.mono (fun x hx => (hnx x hx).1)).cons (rb_ok_r (Or.inl rfl))) (hv.mono (fun x hx => (hnx x hx).1))
  have e2 : (rbR r :: st).map (rb_c (rb_adN ad r H.size)) = Value.ref H.size :: st.map (rb_c ad) := by
    show Value.ref (rb_adN ad r H.size r) :: st.map (rb_c (rb_adN ad r H.size)) = _
    rw [hself, rb_map_nx hnx ho]
  rw [e2] at h
  exact h
theorem rb_newaG (C : rb_C Φ own cc nL fr lo mc ms) (r : rb_R) {at' : ArrayType} {k t0 : Nat} {n : Int32} {N : Nat} {ty : FieldType} (hw : Cond.arrayClass (newarray.typeOf at') ∈ TS) (hty : newarray.typeOf at' = ty) (ht0 : ∀ cA, (rb_tys cA)[t0]? = some (cA k, ty)) (hnr : ∀ U c, va_RA U c ty = (U.vm.findClass ("[" ++ ty.toString) = some c))
    (hd : decode cc pc = .ok (.newarray at', 2)) (hk : rb_k r.1 = k) (hk20 : k < 20) (he : ∀ (ad : rb_R → Nat) (cA : Nat → ClassId), rb_e ad cA (sN G r N) r = .inl (cA k, (rb_e ad cA (sN G r N) r).elim (fun x => x.2) (fun _ => (0, .inl fun _ => 0))) ∧ vp_cell (cA k) ((rb_e ad cA (sN G r N) r).elim (fun x => x.2) (fun _ => (0, .inl fun _ => 0))) = arrV (cA k) N (fun _ => defaultValue ty))
    (hf : ¬ gD G r) (hn : ¬ n < 0) (hN : n.toNatClampNeg = N) (hby : N * componentBytes ty ≤ 536870912) (hc : cells + 1 ≤ mc) (hs : slots + N ≤ ms) (kk : rb_W Φ (cells + 1) (slots + N) (pc + 2) Lv (rbR r :: st) (sN G r N)) : rb_W Φ cells slots pc Lv (rbI n :: st) G := by
  obtain ⟨p, l, e, R, s, m, args, below, meth, c, Q, X, A, ad0, G0⟩ := Φ
  intro ad H locs ls hP hn' hS hl ho hv
  have hK1 := C.2.2.2.2.2.2.2.2.1
  have hR := C.2.2.2.2.2.2.1
  subst hR
  subst hty
  refine va_newaK C.1 C.2.1 (C.2.2.2.2.1 _ hw) rfl hd rfl hn hN hby hc hs rfl fun H1 cA' e1 z1 o1 _ hnm => ?_
  have hnx : rb_nx G ad (sN G r N) (rb_adN ad r H.size) := rb_nx.new hf
  have hA : A H.size := C.2.2.2.2.2.2.2.2.2.2 _ hS.1
  have hcA : cA' = X.2.1 k := by
    have h2 := (hK1.1.2 t0 _ (ht0 X.2.1)).2
    rw [hnr] at h2
    exact Option.some.inj (hnm.symm.trans h2)
  subst hcA
  have key : rb_P X (rb_adN ad r H.size) A (sN G r N) H1 := by
    refine hP.new hf (by rw [hk]; exact hk20) hA o1 ?_
    obtain ⟨x1, x2⟩ := he (rb_adN ad r H.size) X.2.1
    rw [x1]
    show H1[H.size]? = some (vp_cell _ _)
    rw [x2]
    exact e1
  have hself : rb_adN ad r H.size r = H.size := by unfold rb_adN; rw [if_pos rfl]
  have h := kk (rb_adN ad r H.size) H1 locs ls key (hn'.tr hnx) (hS.new z1 o1) (hl.nx hnx hv) ((ho.tl.mono (fun x hx => (hnx x hx).1)).cons (rb_ok_r (Or.inl rfl))) (hv.mono (fun x hx => (hnx x hx).1))
  have e2 : (rbR r :: st).map (rb_c (rb_adN ad r H.size)) = Value.ref H.size :: st.map (rb_c ad) := by
    show Value.ref (rb_adN ad r H.size r) :: st.map (rb_c (rb_adN ad r H.size)) = _
    rw [hself, rb_map_nx hnx ho.tl]
  rw [e2] at h
  exact h
theorem rb_newaI (C : rb_C Φ own cc nL fr lo mc ms) (r : rb_R) {n : Int32} (N : Nat) (hw : Cond.arrayClass .int ∈ TS) (hd : decode cc pc = .ok (.newarray .int, 2)) (hk : rb_k r.1 = 10) (hf : ¬ gD G r) (hn : ¬ n < 0) (hN : n.toNatClampNeg = N) (hby : N * 4 ≤ 536870912) (hc : cells + 1 ≤ mc) (hs : slots + N ≤ ms) (kk : rb_W Φ (cells + 1) (slots + N) (pc + 2) Lv (rbR r :: st) (sN G r N)) : rb_W Φ cells slots pc Lv (rbI n :: st) G := by
  refine rb_newaG C r (at' := .int) (k := 10) (t0 := 0) (ty := .int) hw rfl (fun _ => rfl) (fun _ _ => rfl) hd hk (by decide) (fun ad cA => ?_) hf hn hN hby hc hs kk
  rw [rb_eI hk (by decide) (by decide)]
  refine ⟨rfl, ?_⟩
  show vp_cell _ (gN (sN G r N) r, .inl (gI (sN G r N) r)) = _
  rw [sN_N, sN_I]
  rfl
/-- anewarray -/
theorem rb_anew (C : rb_C Φ own cc nL fr lo mc ms) (r : rb_R) {idx k : Nat} {n : Int32} (N : Nat) (hw : Cond.classLink own idx (rb_cp k) ∈ TS) (h1 : 12 < k) (h2 : k < 16) (hd : decode cc pc = .ok (.anewarray idx, 3)) (hk : rb_k r.1 = k) (hf : ¬ gD G r) (hn : ¬ n < 0) (hN : n.toNatClampNeg = N) (hby : N * 4 ≤ 536870912) (hc : cells + 1 ≤ mc) (hs : slots + N ≤ ms) (kk : rb_W Φ (cells + 1) (slots + N) (pc + 3) Lv (rbR r :: st) (sN G r N)) : rb_W Φ cells slots pc Lv (rbI n :: st) G := by
  obtain ⟨p, l, e, R, s, m, args, below, meth, c, Q, X, A, ad0, G0⟩ := Φ
  intro ad H locs ls hP hn' hS hl ho hv
  have hK1 := C.2.2.2.2.2.2.2.2.1
  have hR := C.2.2.2.2.2.2.1
  subst hR
  subst hN
  have hAO : va_AO (rb_cp k) s := hK1.2.1 _ (by rcases (by omega : k = 13 ∨ k = 14 ∨ k = 15) with rfl | rfl | rfl <;> simp [rb_cp])
  refine W.anew C.1 C.2.1 C.2.2.2.1 (C.2.2.2.2.1 _ hw) (va_AO.use hAO) rfl hd rfl hn hby hc hs fun cA' kA comp f1 f2 f3 f4 => ?_
  generalize hH1 : H.push ({ cls := cA', slots := Array.replicate n.toNatClampNeg .null, vm := .none } : Cell) = H1
  have z1 : H1.size = H.size + 1 := by rw [← hH1, Array.size_push]
  have e1 : H1[H.size]? = some (arrV cA' n.toNatClampNeg (fun _ => .null)) := by rw [← hH1, Array.getElem?_push_size, ← arrV_new]
  have o1 : ∀ q : Nat, q < H.size → H1[q]? = H[q]? := fun q hq => by rw [← hH1, Array.getElem?_push, if_neg (Nat.ne_of_lt hq)]
  have hnx : rb_nx G ad (sN G r n.toNatClampNeg) (rb_adN ad r H.size) := rb_nx.new hf
  have hA : A H.size := C.2.2.2.2.2.2.2.2.2.2 _ hS.1
  have hcA : cA' = X.2.1 k := by
    obtain ⟨kA2, comp2, g1, g2, g3, g4⟩ := (hK1.1.2 (k - 12) _ (rb_tys_q X.2.1 h1 h2)).2
    exact Option.some.inj (f1.symm.trans g4)
  subst hcA
  have key : rb_P X (rb_adN ad r H.size) A (sN G r n.toNatClampNeg) H1 := by
    refine hP.new hf (by rw [hk]; omega) hA o1 ?_
    rw [rb_eP hk h1, sN_N, sN_P]
    exact e1
  have hself : rb_adN ad r H.size r = H.size := by unfold rb_adN; rw [if_pos rfl]
  have h := kk (rb_adN ad r H.size) H1 locs ls key (hn'.tr hnx) (hS.new z1 o1) (hl.nx hnx hv) ((ho.tl.mono (fun x hx => (hnx x hx).1)).cons (rb_ok_r (Or.inl rfl))) (hv.mono (fun x hx => (hnx x hx).1))
  have e2 : (rbR r :: st).map (rb_c (rb_adN ad r H.size)) = Value.ref H.size :: st.map (rb_c ad) := by
    show Value.ref (rb_adN ad r H.size r) :: st.map (rb_c (rb_adN ad r H.size)) = _
    rw [hself, rb_map_nx hnx ho.tl]
  rw [e2] at h
  exact h
/-- checkcast of an object of just that class -/
theorem rb_cast (C : rb_C Φ own cc nL fr lo mc ms) {r : rb_R} {idx ci N : Nat} {RC : String} {TT : u_T} (hw : Cond.classLink own idx RC ∈ TS) (hc : vwCl[ci]? = some (RC, TT, N)) (hci : ci < 10) (hd : decode cc pc = .ok (.checkcast idx, 3)) (hk : rb_k r.1 = ci) (kk : rb_W Φ cells slots (pc + 3) Lv (rbR r :: st) G) : rb_W Φ cells slots pc Lv (rbR r :: st) G := by
  obtain ⟨p, l, e, R, s, m, args, below, meth, c, Q, X, A, ad0, G0⟩ := Φ
  intro ad H locs ls hP hn hS hl ho hv
  have hK1 := C.2.2.2.2.2.2.2.2.1
  obtain ⟨-, hat⟩ := hP.1 r (ho.hd r rfl) (by rw [hk]; omega)
  rw [rb_eo hk hci] at hat
  exact va_castS C.1 C.2.1 C.2.2.2.1 (C.2.2.2.2.1 _ hw) (hK1.1.1 ci _ hc).2 (va_recv hK1.1 (rb_one hat) hc (q0 := 0) rfl) hd (kk ad H locs ls hP hn hS hl ho hv)
/-- the static that holds ArrayList's empty row -/
theorem rb_getE (C : rb_C Φ own cc nL fr lo mc ms) {idx : Nat} (hw : Cond.fieldLink own idx "java/util/ArrayList" "DEFAULTCAPACITY_EMPTY_ELEMENTDATA" "[Ljava/lang/Object;" ∈ TS) (hd : decode cc pc = .ok (.getstatic idx, 3)) (hD : gD G (19, 0, 0)) (kk : rb_W Φ cells slots (pc + 3) Lv (rbR (19, 0, 0) :: st) G) : rb_W Φ cells slots pc Lv st G := by
  obtain ⟨p, l, e, R, s, m, args, below, meth, c, Q, X, A, ad0, G0⟩ := Φ
  intro ad H locs ls hP hn hS hl ho hv
  have h := kk ad H locs ls hP hn hS hl (ho.cons (rb_ok_r hD)) hv
  have e1 : (rbR (19, 0, 0) :: st).map (rb_c ad) = Value.ref X.2.2.1 :: st.map (rb_c ad) := by
    show Value.ref (ad (19, 0, 0)) :: _ = _
    rw [hP.2.2.2.1]
  rw [e1] at h
  exact va_gets C.1 C.2.1 C.2.2.2.2.2.2.2.2.2.1.2.2.1 hS C.2.2.2.1 (C.2.2.2.2.1 _ hw) (fun _ h => h) hd h
/-! calls -/
theorem rb_run_x {p : Program} {l : Launch} {e : Env} {R : Room} {s : State} {m : MethodId} {args : Array Value} {below : List Frame} {meth : Method} {c : Code} {H : Heap} {locs : List Loc} {mc' ms' : Nat} {g : JFrame} {rs : List Value} {Qa : State → Outcome → State → Prop} {XC : String → State → State → Prop} {free : Addr → Prop}
    (h : va_Run p l e R s m args below meth c H locs cells slots mc' ms' g rs Qa free) : vx_Run p l e R s m args below meth c H locs cells slots mc' ms' g rs Qa XC free := by
  intro T hT X
  exact Or.inl (h T hT X)
theorem rb_after {p : Program} {l : Launch} {e : Env} {R : Room} {s : State} {m : MethodId} {args : Array Value} {below : List Frame} {meth : Method} {c : Code} {Q : State → Prop} {X : rb_X} {A : Nat → Prop} {ad0 ad : rb_R → Nat} {G0 : rb_G} {H : Heap} {locs : List Loc} {ls : Array Slot} {mc' ms' : Nat} {st0 : List Value} {a : Array Value} {Post : Option rb_V → rb_G → Prop} {PX : String → rb_G → Prop}
    (hr : vx_Run p l e R s m args below meth c H locs cells slots mc' ms' (F0 m pc ls st0) (rest.map (rb_c ad)) (rb_Q X A ad G Post a) (rb_QX X A ad G PX) A) (hn : rb_nx G0 ad0 G ad) (hS : va_S A s.heap H locs) (hl : rb_ls ad ls Lv) (ho : rb_okL G rest) (hv : rb_okO G Lv)
    (kk : ∀ v G', Post v G' → rb_W (p, l, e, R, s, m, args, below, meth, c, Q, X, A, ad0, G0) (cells + mc') (slots + ms') (pc + 3) Lv (v.toList ++ rest) G')
    (kx : ∀ E G', PX E G' → rb_Wx (p, l, e, R, s, m, args, below, meth, c, Q, X, A, ad0, G0) (cells + mc') (slots + ms') pc Lv rest G' E) : W p l e R s m args below meth c H locs cells slots Q (F0 m pc ls st0) := by
  intro T hT Xs
  rcases hr T hT Xs with ⟨v, st₀, t, T', L, h0, X', hL, e1, e2, ⟨⟨v', G', ad', hv', hp, hnx, hok, hP'⟩, hF⟩, stp⟩ | ⟨q, st₀, t, T', L, E, ce, h0, X', hL, e1, e2, ⟨⟨G', ad', hp, hnx, hP'⟩, hF⟩, hce, hcv, hcl, stp⟩
  · cases hv'
    obtain ⟨k1, k2, k3⟩ := vx_keep h0 e1 hS (fun _ _ h => h) (fun _ h => h) hL hF
    have hmono : ∀ r, gD G r → gD G' r := fun r hr => (hnx r hr).1
    have hok2 : rb_okL G' (v'.toList ++ rest) := by
      intro w hw
      rcases List.mem_append.mp hw with h | h
      · exact hok w (by simpa using h)
      · exact (ho w h).mono hmono
    obtain ⟨t2, a1, b1⟩ := kk v' G' hp ad' T'.heap (locs ++ L) ls (by rw [e1]; exact hP') (hn.tr hnx) k3 (hl.nx hnx hv) hok2 (hv.mono hmono) T' rfl X'
    refine ⟨t2, stp t2 ?_, b1⟩
    have e3 : (v'.toList ++ rest).map (rb_c ad') = (v'.map (rb_c ad')).toList ++ rest.map (rb_c ad) := by
      rw [List.map_append, rb_map_nx hnx ho]
      cases v' <;> rfl
    rw [e3] at a1
    exact a1
  · obtain ⟨k1, k2, k3⟩ := vx_keep h0 e1 hS (fun _ _ h => h) (fun _ h => h) hL hF
    have hmono : ∀ r, gD G r → gD G' r := fun r hr => (hnx r hr).1
    obtain ⟨t2, a1, b1⟩ := kx E G' hp ad' T'.heap (locs ++ L) ls q ce (by rw [e1]; exact hP') (hn.tr hnx) k3 (hl.nx hnx hv) (ho.mono hmono) (hv.mono hmono) (by rw [e1]; exact hce) hcv hcl T' rfl X'
    refine ⟨t2, stp.trans ?_, b1⟩
    rw [rb_map_nx hnx ho] at a1
    exact a1
/-- the words of a call -/
def rb_Vc (own : String) (idx : Nat) (D : String) (y : MethodName) (b : ByteArray) (n : Nat) (ret : Option FieldType) (k : Nat) : Prop := Cond.methodLink own idx y ∈ TS ∧ Cond.instanceMethod y ∈ TS ∧ Cond.selects D y y ∈ TS ∧ Cond.initialized D ∈ TS ∧ Cond.code y b n ret ∈ TS ∧
  (y.cls = D ∧ y.cls ≠ "java/lang/invoke/MethodHandle" ∧ y.cls ≠ "java/lang/invoke/VarHandle" ∧ (parseMethodDescriptor y.desc).map (fun d => d.parameters.length) = some k)
def rb_Sc (own : String) (idx : Nat) (y : MethodName) (b : ByteArray) (n : Nat) (ret : Option FieldType) (k : Nat) : Prop := Cond.methodLink own idx y ∈ TS ∧ Cond.static y ∈ TS ∧ Cond.initialized y.cls ∈ TS ∧ Cond.code y b n ret ∈ TS ∧
  (y.cls ≠ "java/lang/invoke/MethodHandle" ∧ y.cls ≠ "java/lang/invoke/VarHandle" ∧ (parseMethodDescriptor y.desc).map (fun d => d.parameters.length) = some k)
def rb_Ic (own : String) (idx : Nat) (y : MethodName) (b : ByteArray) (n : Nat) (k : Nat) : Prop := Cond.methodLink own idx y ∈ TS ∧ Cond.instanceMethod y ∈ TS ∧ Cond.initialized y.cls ∈ TS ∧ Cond.code y b n none ∈ TS ∧ y.name = "<init>" ∧
  (y.cls ≠ "java/lang/invoke/MethodHandle" ∧ y.cls ≠ "java/lang/invoke/VarHandle" ∧ (parseMethodDescriptor y.desc).map (fun d => d.parameters.length) = some k)
/-- a method called by a name, on an object of just that class -/
theorem rb_callV (C : rb_C Φ own cc nL fr lo mc ms) {r : rb_R} {idx n k ci N fr' lo' mc' ms' : Nat} {D : String} {TT : u_T} {y : MethodName} {b : ByteArray} {ret : Option FieldType} {Post : Option rb_V → rb_G → Prop} {PX : String → rb_G → Prop}
    (F : rb_Vc own idx D y b n ret k) (hM : ∀ l X, rb_M l X y (.code y b n ret) fr' lo' mc' ms' (rbR r :: As) G Post PX) (hc : vwCl[ci]? = some (D, TT, N)) (hci : ci < 10) (hk : rb_k r.1 = ci) (hd : decode cc pc = .ok (.invokevirtual idx, 3)) (hst : st = As.reverse ++ (rbR r :: rest)) (hk9 : As.length = k) (hlen : Lv.length = nL) (hcat : (rest.map rb_cat).sum ≤ 8)
    (hroom : fr' + 1 ≤ fr ∧ 8 + (n + 11) + lo' ≤ lo) (hc9 : cells + mc' ≤ mc) (hs9 : slots + ms' ≤ ms) (kk : ∀ v G', Post v G' → rb_W Φ (cells + mc') (slots + ms') (pc + 3) Lv (v.toList ++ rest) G') (kx : ∀ E G', PX E G' → rb_Wx Φ (cells + mc') (slots + ms') pc Lv rest G' E) : rb_W Φ cells slots pc Lv st G := by
  obtain ⟨p, l, e, R, s, m, args, below, meth, c, Q, X, A, ad0, G0⟩ := Φ
  intro ad H locs ls hP hn hS hl ho hv
  subst hst
  have hK1 := C.2.2.2.2.2.2.2.2.1
  have hR := C.2.2.2.2.2.2.1
  subst hR
  obtain ⟨w1, w2, w3, w4, w5, w6⟩ := F
  have hor : rb_okL G (rbR r :: rest) := fun v hv => ho v (List.mem_append_right _ hv)
  have hoa : rb_okL G (rbR r :: As) := fun v hv => (List.mem_cons.mp hv).elim (fun e => by rw [e]; exact hor.hd) (fun h => ho v (List.mem_append_left _ (List.mem_reverse.mpr h)))
  obtain ⟨-, hat⟩ := hP.1 r (hor.hd r rfl) (by rw [hk]; omega)
  rw [rb_eo hk hci] at hat
  have hG : GoodIn TS (wsV own idx D y (Cond.code y b n ret :: TS)) := fun w hw => by
    unfold wsV at hw
    rcases List.mem_append.mp hw with h | h
    · simp only [List.mem_cons, List.not_mem_nil, or_false] at h
      rcases h with rfl | rfl | rfl | rfl
      · exact ts_good _ w1
      · exact ts_good _ w2
      · exact ts_good _ w3
      · exact ts_good _ w4
    · exact ts_code w5 w h
  have hrun := vx_runV (R := ({ frames := fr, cells := mc, slots := ms, locals := lo } : Room)) (n := k) (ret := ret) (maxL := n) (bytes := b) (As := As.map (rb_c ad)) (rest := rest.map (rb_c ad)) (cells := cells) (slots := slots) (locs := locs) (b := ad r) (e := e) (p := p) (g := F0 m pc ls ((As.reverse ++ (rbR r :: rest)).map (rb_c ad)))
    (meth := meth) (below := below) ⟨C.1, C.2.1, C.2.2.1, C.2.2.2.1, C.2.2.2.2.1⟩ (hM l X C.2.2.2.2.2.2.2.1 A ad) (cwV (C := D) k C.2.2.2.2.1 hG rfl rfl rfl w6 hroom)
    ⟨rb_blind, va_recv hK1.1 (rb_one hat) hc (q0 := 0) rfl, fun U hU hW => ⟨rfl, fun q hq => C.2.2.2.2.2.2.2.2.2.2 q (Nat.le_trans hS.1 (by rw [← hU]; exact hq)), by rw [hU]; exact hP, hK1.warm hW, by rw [hU]; exact C.2.2.2.2.2.2.2.2.2.1.moved hW.alike hS.1 hS.2.1, hoa⟩⟩
    rfl (by rw [List.length_map]; exact hk9) (by show ls.size = nL; rw [hl.1, hlen]) (by show (As.reverse ++ (rbR r :: rest)).map (rb_c ad) = _; rw [List.map_append, List.map_reverse]; rfl)
    (lv_room (by rw [List.map_map, show ((fun v => Value.category v) ∘ rb_c ad) = rb_cat from funext fun v => rb_cat_c ad v]; exact hcat)) hd ⟨hc9, hs9⟩
  exact rb_after hrun hn hS hl hor.tl hv kk kx
theorem rb_callS (C : rb_C Φ own cc nL fr lo mc ms) {idx n k fr' lo' mc' ms' : Nat} {y : MethodName} {b : ByteArray} {ret : Option FieldType} {Post : Option rb_V → rb_G → Prop} {PX : String → rb_G → Prop}
    (F : rb_Sc own idx y b n ret k) (hM : ∀ l X, rb_M l X y (.code y b n ret) fr' lo' mc' ms' As G Post PX) (hd : decode cc pc = .ok (.invokestatic idx, 3)) (hst : st = As.reverse ++ rest) (hk9 : As.length = k) (hlen : Lv.length = nL) (hcat : (rest.map rb_cat).sum ≤ 8)
    (hroom : fr' + 1 ≤ fr ∧ 8 + (n + 11) + lo' ≤ lo) (hc9 : cells + mc' ≤ mc) (hs9 : slots + ms' ≤ ms) (kk : ∀ v G', Post v G' → rb_W Φ (cells + mc') (slots + ms') (pc + 3) Lv (v.toList ++ rest) G') (kx : ∀ E G', PX E G' → rb_Wx Φ (cells + mc') (slots + ms') pc Lv rest G' E) : rb_W Φ cells slots pc Lv st G := by
  obtain ⟨p, l, e, R, s, m, args, below, meth, c, Q, X, A, ad0, G0⟩ := Φ
  intro ad H locs ls hP hn hS hl ho hv
  subst hst
  have hK1 := C.2.2.2.2.2.2.2.2.1
  have hR := C.2.2.2.2.2.2.1
  subst hR
  obtain ⟨w1, w2, w4, w5, w6⟩ := F
  have hor : rb_okL G rest := fun v hv => ho v (List.mem_append_right _ hv)
  have hoa : rb_okL G As := fun v h => ho v (List.mem_append_left _ (List.mem_reverse.mpr h))
  have hrun := vx_runS (R := ({ frames := fr, cells := mc, slots := ms, locals := lo } : Room)) (n := k) (ret := ret) (maxL := n) (bytes := b) (As := As.map (rb_c ad)) (rest := rest.map (rb_c ad)) (cells := cells) (slots := slots) (locs := locs) (e := e) (p := p) (H := H) (g := F0 m pc ls ((As.reverse ++ rest).map (rb_c ad)))
    (meth := meth) (below := below) ⟨C.1, C.2.1, C.2.2.1, C.2.2.2.1, C.2.2.2.2.1⟩ (hM l X C.2.2.2.2.2.2.2.1 A ad) ⟨callB_of k C.2.2.2.2.1 (ts_code w5) rfl rfl rfl (C.2.2.2.2.1 _ w4) (C.2.2.2.2.1 _ w1) w6 hroom, C.2.2.2.2.1 _ w2⟩
    ⟨rb_blind, fun U hU hW => ⟨rfl, fun q hq => C.2.2.2.2.2.2.2.2.2.2 q (Nat.le_trans hS.1 (by rw [← hU]; exact hq)), by rw [hU]; exact hP, hK1.warm hW, by rw [hU]; exact C.2.2.2.2.2.2.2.2.2.1.moved hW.alike hS.1 hS.2.1, hoa⟩⟩
    rfl (by rw [List.length_map]; exact hk9) (by show ls.size = nL; rw [hl.1, hlen]) (by show (As.reverse ++ rest).map (rb_c ad) = _; rw [List.map_append, List.map_reverse])
    (lv_room (by rw [List.map_map, show ((fun v => Value.category v) ∘ rb_c ad) = rb_cat from funext fun v => rb_cat_c ad v]; exact hcat)) hd ⟨hc9, hs9⟩
  exact rb_after hrun hn hS hl hor hv kk kx
/-- a constructor -/
theorem rb_callI (C : rb_C Φ own cc nL fr lo mc ms) {r : rb_R} {idx n k fr' lo' mc' ms' : Nat} {y : MethodName} {b : ByteArray} {Post : Option rb_V → rb_G → Prop}
    (F : rb_Ic own idx y b n k) (hM : ∀ l X, rb_N l X y (.code y b n none) fr' lo' mc' ms' (rbR r :: As) G Post) (hd : decode cc pc = .ok (.invokespecial idx, 3)) (hst : st = As.reverse ++ (rbR r :: rest)) (hk9 : As.length = k) (hlen : Lv.length = nL) (hcat : (rest.map rb_cat).sum ≤ 8)
    (hroom : fr' + 1 ≤ fr ∧ 8 + (n + 11) + lo' ≤ lo) (hc9 : cells + mc' ≤ mc) (hs9 : slots + ms' ≤ ms) (kk : ∀ v G', Post v G' → rb_W Φ (cells + mc') (slots + ms') (pc + 3) Lv (v.toList ++ rest) G') : rb_W Φ cells slots pc Lv st G := by
  obtain ⟨p, l, e, R, s, m, args, below, meth, c, Q, X, A, ad0, G0⟩ := Φ
  intro ad H locs ls hP hn hS hl ho hv
  subst hst
  have hK1 := C.2.2.2.2.2.2.2.2.1
  have hR := C.2.2.2.2.2.2.1
  subst hR
  obtain ⟨w1, w2, w4, w5, w6, w7⟩ := F
  have hor : rb_okL G (rbR r :: rest) := fun v hv => ho v (List.mem_append_right _ hv)
  have hoa : rb_okL G (rbR r :: As) := fun v hv => (List.mem_cons.mp hv).elim (fun e => by rw [e]; exact hor.hd) (fun h => ho v (List.mem_append_left _ (List.mem_reverse.mpr h)))
  have hrun := va_runI (R := ({ frames := fr, cells := mc, slots := ms, locals := lo } : Room)) (n := k) (maxL := n) (bytes := b) (As := As.map (rb_c ad)) (rest := rest.map (rb_c ad)) (cells := cells) (slots := slots) (locs := locs) (b := ad r) (e := e) (p := p) (H := H) (g := F0 m pc ls ((As.reverse ++ (rbR r :: rest)).map (rb_c ad)))
    (meth := meth) (below := below) ⟨C.1, C.2.1, C.2.2.1, C.2.2.2.1, C.2.2.2.2.1⟩ (hM l X C.2.2.2.2.2.2.2.1 A ad) (cwI k C.2.2.2.2.1 (ts_code w5) rfl rfl rfl (C.2.2.2.2.1 _ w4) (C.2.2.2.2.1 _ w1) (C.2.2.2.2.1 _ w2) w6 w7 hroom)
    ⟨rb_blind, fun U hU hW => ⟨rfl, fun q hq => C.2.2.2.2.2.2.2.2.2.2 q (Nat.le_trans hS.1 (by rw [← hU]; exact hq)), by rw [hU]; exact hP, hK1.warm hW, by rw [hU]; exact C.2.2.2.2.2.2.2.2.2.1.moved hW.alike hS.1 hS.2.1, hoa⟩⟩
    rfl (by rw [List.length_map]; exact hk9) (by show ls.size = nL; rw [hl.1, hlen]) (by show (As.reverse ++ (rbR r :: rest)).map (rb_c ad) = _; rw [List.map_append, List.map_reverse]; rfl)
    (lv_room (by rw [List.map_map, show ((fun v => Value.category v) ∘ rb_c ad) = rb_cat from funext fun v => rb_cat_c ad v]; exact hcat)) hd ⟨hc9, hs9⟩
  exact rb_after (PX := fun _ _ => False) (rb_run_x hrun) hn hS hl hor.tl hv kk (fun E G' h => h.elim)
/-- a private constructor of a nest mate -/
theorem rb_callIN (C : rb_C Φ own cc nL fr lo mc ms) {r : rb_R} {idx n k fr' lo' mc' ms' : Nat} {host : String} {y : MethodName} {b : ByteArray} {Post : Option rb_V → rb_G → Prop}
    (hlk : ∀ X s, rb_K1 X s → va_Nw (.methodLinkNest own idx y host) s) (w2 : Cond.instanceMethod y ∈ TS) (w4 : Cond.initialized y.cls ∈ TS) (w5 : Cond.code y b n none ∈ TS) (w6 : y.name = "<init>") (w7 : y.cls ≠ "java/lang/invoke/MethodHandle" ∧ y.cls ≠ "java/lang/invoke/VarHandle" ∧ (parseMethodDescriptor y.desc).map (fun d => d.parameters.length) = some k)
    (hM : ∀ l X, rb_N l X y (.code y b n none) fr' lo' mc' ms' (rbR r :: As) G Post) (hd : decode cc pc = .ok (.invokespecial idx, 3)) (hst : st = As.reverse ++ (rbR r :: rest)) (hk9 : As.length = k) (hlen : Lv.length = nL) (hcat : (rest.map rb_cat).sum ≤ 8)
    (hroom : fr' + 1 ≤ fr ∧ 8 + (n + 11) + lo' ≤ lo) (hc9 : cells + mc' ≤ mc) (hs9 : slots + ms' ≤ ms) (kk : ∀ v G', Post v G' → rb_W Φ (cells + mc') (slots + ms') (pc + 3) Lv (v.toList ++ rest) G') : rb_W Φ cells slots pc Lv st G := by
  obtain ⟨p, l, e, R, s, m, args, below, meth, c, Q, X, A, ad0, G0⟩ := Φ
  intro ad H locs ls hP hn hS hl ho hv
  subst hst
  have hK1 := C.2.2.2.2.2.2.2.2.1
  have hR := C.2.2.2.2.2.2.1
  subst hR
  have hor : rb_okL G (rbR r :: rest) := fun v hv => ho v (List.mem_append_right _ hv)
  have hoa : rb_okL G (rbR r :: As) := fun v hv => (List.mem_cons.mp hv).elim (fun e => by rw [e]; exact hor.hd) (fun h => ho v (List.mem_append_left _ (List.mem_reverse.mpr h)))
  have hrun := va_runIN (R := ({ frames := fr, cells := mc, slots := ms, locals := lo } : Room)) (n := k) (maxL := n) (bytes := b) (As := As.map (rb_c ad)) (rest := rest.map (rb_c ad)) (cells := cells) (slots := slots) (locs := locs) (b := ad r) (e := e) (p := p) (H := H) (g := F0 m pc ls ((As.reverse ++ (rbR r :: rest)).map (rb_c ad)))
    (meth := meth) (below := below) ⟨C.1, C.2.1, C.2.2.1, C.2.2.2.1, C.2.2.2.2.1⟩ (hM l X C.2.2.2.2.2.2.2.1 A ad) ⟨va_cnB k C.2.2.2.2.1 (ts_code w5) rfl rfl rfl (hlk X s hK1) (C.2.2.2.2.1 _ w4) w7 hroom, w6, C.2.2.2.2.1 _ w2⟩
    ⟨rb_blind, fun U hU hW => ⟨rfl, fun q hq => C.2.2.2.2.2.2.2.2.2.2 q (Nat.le_trans hS.1 (by rw [← hU]; exact hq)), by rw [hU]; exact hP, hK1.warm hW, by rw [hU]; exact C.2.2.2.2.2.2.2.2.2.1.moved hW.alike hS.1 hS.2.1, hoa⟩⟩
    rfl (by rw [List.length_map]; exact hk9) (by show ls.size = nL; rw [hl.1, hlen]) (by show (As.reverse ++ (rbR r :: rest)).map (rb_c ad) = _; rw [List.map_append, List.map_reverse]; rfl)
    (lv_room (by rw [List.map_map, show ((fun v => Value.category v) ∘ rb_c ad) = rb_cat from funext fun v => rb_cat_c ad v]; exact hcat)) hd ⟨hc9, hs9⟩
  exact rb_after (PX := fun _ _ => False) (rb_run_x hrun) hn hS hl hor.tl hv kk (fun E G' h => h.elim)
/-- Object.<init> -/
theorem rb_objInit (C : rb_C Φ own cc nL fr lo mc ms) {r : rb_R} {idx : Nat} (w1 : Cond.methodLink own idx objectInit ∈ TS) (w2 : Cond.instanceMethod objectInit ∈ TS) (w3 : Cond.code objectInit ⟨#[0xb1]⟩ 1 none ∈ TS) (hd : decode cc pc = .ok (.invokespecial idx, 3)) (hlen : Lv.length = nL) (hcat : (st.map rb_cat).sum + 12 ≤ lo) (hfr : 1 ≤ fr) (kk : rb_W Φ cells slots (pc + 3) Lv st G) : rb_W Φ cells slots pc Lv (rbR r :: st) G := by
  obtain ⟨p, l, e, R, s, m, args, below, meth, c, Q, X, A, ad0, G0⟩ := Φ
  intro ad H locs ls hP hn hS hl ho hv
  have hR := C.2.2.2.2.2.2.1
  subst hR
  refine W.objInit C.1 C.2.1 C.2.2.2.1 (C.2.2.2.2.1 _ w1) (C.2.2.2.2.1 _ w2) (C.2.2.2.2.1 _ w3) (g := F0 m pc ls ((rbR r :: st).map (rb_c ad))) rfl (by show ls.size = _; rw [hl.1, hlen, C.2.2.1]) rfl hd hfr ?_ (kk ad H locs ls hP hn hS hl ho.tl hv)
  show 2 * 0 + ((st.map (rb_c ad)).map fun v => v.category).sum + 12 ≤ lo
  rw [List.map_map, show ((fun v => Value.category v) ∘ rb_c ad) = rb_cat from funext fun v => rb_cat_c ad v]
  omega
end
end
section
/-! exceptions -/
theorem rb_P.keep {X : rb_X} {ad : rb_R → Nat} {A : Nat → Prop} {G : rb_G} {H H1 : Heap} (hP : rb_P X ad A G H) (h : ∀ q : Nat, q < H.size → H1[q]? = H[q]?) : rb_P X ad A G H1 :=
  ⟨fun r hr hk => ⟨(hP.1 r hr hk).1, (hP.1 r hr hk).2.kept (h _ (hP.1 r hr hk).2.lt)⟩, hP.2⟩
def rb_sup : List String := ["java/lang/RuntimeException", "java/lang/Exception"]
def rb_Thr (ik ic : Nat) (cls : String) : Prop := Cond.classLink RX7 ik cls ∈ TS ∧ Cond.initialized cls ∈ TS ∧ Bundle.fit cls = true ∧ (∀ w ∈ (vx_atS RX7 ic cls rb_sup).filter goodWord, w ∈ TS) ∧ (∀ w ∈ (vx_atS RX7 ic cls rb_sup).filter (fun w => !goodWord w), w ∈ Cond.castable cls cls :: rb_dcl.map Cond.declares) ∧
  (cls, cls) ∈ rb_cst ∧ ∀ w ∈ Cond.classLink RX7 ik cls :: Cond.initialized cls :: vx_atS RX7 ic cls rb_sup, vx_ot w = true
section
variable {Φ : rb_F} {own : String} {cc : ByteArray} {nL fr lo mc ms cells slots pc : Nat} {Lv Lv' : List (Option rb_V)} {st rest As : List rb_V} {G : rb_G}
theorem rb_throw (C : rb_C Φ RX7 cc nL fr lo mc ms) {PX : String → rb_G → Prop} (hE : rb_EX Φ PX mc ms) {cls text : String} {ik is ic : Nat} (F : rb_Thr ik ic cls) (hst : (is, text) ∈ rb_strs) (d0 : decode cc pc = .ok (.new ik, 3)) (d3 : decode cc (pc + 3) = .ok (.dup, 1)) (d4 : decode cc (pc + 4) = .ok (.ldc is, 2)) (d6 : decode cc (pc + 6) = .ok (.invokespecial ic, 3)) (d9 : decode cc (pc + 9) = .ok (.athrow, 1))
    (hlen : Lv.length = nL) (hfr : 5 < fr) (hlo : (st.map rb_cat).sum + 82 ≤ lo) (hc : cells + 1 ≤ mc) (hs : slots + 6 ≤ ms) (hp : PX cls G) : rb_W Φ cells slots pc Lv st G := by
  obtain ⟨p, l, e, R, s, m, args, below, meth, c, Q, X, A, ad0, G0⟩ := Φ
  intro ad H locs ls hP hn hS hl ho hv
  have hR := C.2.2.2.2.2.2.1
  subst hR
  have hK1 := C.2.2.2.2.2.2.2.2.1
  have hK2 := C.2.2.2.2.2.2.2.2.2.1
  obtain ⟨ht, Qc, hQ⟩ := hE
  subst hQ
  obtain ⟨w1, w2, w3, w4, w5, w6, w7⟩ := F
  obtain ⟨sa, hsa⟩ := hK1.2.2.2.2.1 _ hst
  refine vx_throwS (names := rb_sup) (sa := sa) C.1 C.2.1 C.2.2.2.2.2.2.2.1 C.2.2.2.1 w3 (by decide +kernel) (C.2.2.2.2.1 _ w1) (C.2.2.2.2.1 _ w2) hsa
    (vx_hat (fun w hw => C.2.2.2.2.1 _ (w4 w hw)) w5 (vx_c (va_Nw.use rfl (hK1.2.2.1 _ w6)) (fun w hw => by obtain ⟨y, hy, e⟩ := List.mem_map.mp hw; rw [← e]; exact va_Nw.use rfl (hK1.2.2.2.2.2.2.2.2.2 y hy)))) w7 hK2.1 hK2.2.1 hS (by rw [hl.1, hlen, C.2.2.1]) d0 d3 d4 d6 d9 (fun x hx => (ht x hx).elim) hfr ?_ (Nat.le_trans hc (Nat.le_refl _)) (Nat.le_trans hs (Nat.le_refl _)) C.2.2.2.2.2.1
    (fun t hvm hz hk => ⟨⟨G, ad, hp, hn, hP.keep hk⟩, Nat.le_trans hS.1 hz, fun q h1 h2 => (hk q (Nat.lt_of_lt_of_le h1 hS.1)).trans (hS.2.1 q h1 h2)⟩) hS.2.2 hc hs
  show ((st.map (rb_c ad)).map fun v => v.category).sum + 82 ≤ lo
  rw [List.map_map, show ((fun v => Value.category v) ∘ rb_c ad) = rb_cat from funext fun v => rb_cat_c ad v]
  exact hlo
theorem rb_throwW (C : rb_C Φ RX7 cc nL fr lo mc ms) {PX : String → rb_G → Prop} (hE : rb_EX Φ PX mc ms) {cls text : String} {ik is ic : Nat} (F : rb_Thr ik ic cls) (hst : (is, text) ∈ rb_strs) (d0 : decode cc pc = .ok (.new ik, 3)) (d3 : decode cc (pc + 3) = .ok (.dup, 1)) (d4 : decode cc (pc + 4) = .ok (.ldc_w is, 3)) (d6 : decode cc (pc + 7) = .ok (.invokespecial ic, 3)) (d9 : decode cc (pc + 10) = .ok (.athrow, 1))
    (hlen : Lv.length = nL) (hfr : 5 < fr) (hlo : (st.map rb_cat).sum + 82 ≤ lo) (hc : cells + 1 ≤ mc) (hs : slots + 6 ≤ ms) (hp : PX cls G) : rb_W Φ cells slots pc Lv st G := by
  obtain ⟨p, l, e, R, s, m, args, below, meth, c, Q, X, A, ad0, G0⟩ := Φ
  intro ad H locs ls hP hn hS hl ho hv
  have hR := C.2.2.2.2.2.2.1
  subst hR
  have hK1 := C.2.2.2.2.2.2.2.2.1
  have hK2 := C.2.2.2.2.2.2.2.2.2.1
  obtain ⟨ht, Qc, hQ⟩ := hE
  subst hQ
  obtain ⟨w1, w2, w3, w4, w5, w6, w7⟩ := F
  obtain ⟨sa, hsa⟩ := hK1.2.2.2.2.1 _ hst
  refine vx_throwSW (names := rb_sup) (sa := sa) C.1 C.2.1 C.2.2.2.2.2.2.2.1 C.2.2.2.1 w3 (by decide +kernel) (C.2.2.2.2.1 _ w1) (C.2.2.2.2.1 _ w2) hsa
    (vx_hat (fun w hw => C.2.2.2.2.1 _ (w4 w hw)) w5 (vx_c (va_Nw.use rfl (hK1.2.2.1 _ w6)) (fun w hw => by obtain ⟨y, hy, e⟩ := List.mem_map.mp hw; rw [← e]; exact va_Nw.use rfl (hK1.2.2.2.2.2.2.2.2.2 y hy)))) w7 hK2.1 hK2.2.1 hS (by rw [hl.1, hlen, C.2.2.1]) d0 d3 d4 d6 d9 (fun x hx => (ht x hx).elim) hfr ?_ (Nat.le_trans hc (Nat.le_refl _)) (Nat.le_trans hs (Nat.le_refl _)) C.2.2.2.2.2.1
    (fun t hvm hz hk => ⟨⟨G, ad, hp, hn, hP.keep hk⟩, Nat.le_trans hS.1 hz, fun q h1 h2 => (hk q (Nat.lt_of_lt_of_le h1 hS.1)).trans (hS.2.1 q h1 h2)⟩) hS.2.2 hc hs
  show ((st.map (rb_c ad)).map fun v => v.category).sum + 82 ≤ lo
  rw [List.map_map, show ((fun v => Value.category v) ∘ rb_c ad) = rb_cat from funext fun v => rb_cat_c ad v]
  exact hlo
/-! methods with a table -/
def rb_T (Φ : rb_F) (hh : List (Nat × Nat × Nat × Nat)) : Prop := match Φ with
  | (_, _, _, _, _, _, _, _, _, c, _, _, _, _, _) => c.exceptionTable.toList = tableOf hh
theorem rb_startW {l : Launch} {X : rb_X} {y : MethodName} {cc : ByteArray} {maxL : Nat} {ret : Option FieldType} {hh : List (Nat × Nat × Nat × Nat)} {fr lo mc ms : Nat} {av : List rb_V} {G : rb_G} {Post : Option rb_V → rb_G → Prop} (own : String) (hy : y.cls = own) (hpl : plainName own = true) (hc1 : rb_c1 (av.map some) = true) (hn : av.length ≤ maxL)
    (body : ∀ Φ, rb_C Φ own cc maxL fr lo mc ms → rb_E Φ ret Post mc ms → rb_T Φ hh → rb_W Φ 0 0 0 (av.map some ++ List.replicate (maxL - av.length) none) [] G) : rb_N l X y (.codeWith y cc maxL ret hh) fr lo mc ms av G Post := by
  intro hl A ad
  refine va_MetW (cc := cc) (maxL := maxL) (ret := ret) (by rw [hy]; exact hpl) rfl ?_
  intro p e s m args below meth c s₁ B hml hv
  obtain ⟨rfl, hA, hP, hK1, hK2, hok⟩ := hv
  have hts0 := atoms_spec (ws := .codeWith y cc maxL ret hh :: TS) B.pre
  have K := body (p, l, e, (headSpec (.codeWith y cc maxL ret hh :: TS) { frames := fr, cells := mc, slots := ms, locals := lo }).room, s, m, (av.map (rb_c ad)).toArray, below, meth, c, MQ below (rb_Q X A ad G Post) (av.map (rb_c ad)).toArray s mc ms A, X, A, ad, G)
    ⟨B.exec, B.bytes, hml, by rw [← hy]; exact findClass_of_methodNamed B.named, fun w hw => hts0 w (List.mem_cons_of_mem _ hw), B.notSynchronized, rfl, hl, hK1, hK2, hA⟩ ⟨B.returns, fun _ _ _ h => h⟩ (vx_table (x := y) B (hts0 _ List.mem_cons_self))
  rw [lg_entry_eq]
  exact K ad s.heap [] _ hP rb_nx.rf va_S.rf (rb_entry ad av hc1 hn) (fun v hv => by cases hv) (fun v hv => by
    rcases List.mem_append.mp hv with h | h
    · obtain ⟨w, hw, e⟩ := List.mem_map.mp h
      cases e
      exact hok v hw
    · cases (List.mem_replicate.mp h).2)
/-- caught: astore; iconst; ireturn -/
theorem rb_catch (C : rb_C Φ own cc nL fr lo mc ms) {hh : List (Nat × Nat × Nat × Nat)} (T : rb_T Φ hh) {Post : Option rb_V → rb_G → Prop} (hE : rb_E Φ (some .int) Post mc ms) {E : String} (pre : List ExceptionTableEntry) (x : ExceptionTableEntry) (suf : List ExceptionTableEntry) (hsplit : tableOf hh = pre ++ x :: suf)
    (hpass : ∀ z ∈ pre, z.catchType ≠ 0 ∧ ∃ nm : String, Cond.classLink own z.catchType nm ∈ TS ∧ (E, nm) ∈ rb_ncs) (hx : covers x pc = true) (h0 : x.catchType ≠ 0) (hlk : Cond.classLink own x.catchType E ∈ TS) (hce : (E, E) ∈ rb_cst) {i pc1 pc2 : Nat} {n : Int} {v : Int32}
    (da : (decode cc x.handlerPc = .ok (.astore i, 2) ∧ pc1 = x.handlerPc + 2) ∨ (decode cc x.handlerPc = .ok (.astore_n 3, 1) ∧ i = 3 ∧ pc1 = x.handlerPc + 1)) (di : decode cc pc1 = .ok (.iconst n, 1)) (hp2 : pc2 = pc1 + 1) (dr : decode cc pc2 = .ok (.ireturn, 1)) (hv0 : Int32.ofInt n = v) (hi : i < Lv.length) (hc : cells ≤ mc) (hs : slots ≤ ms) (hp : Post (some (rbI v)) G) : rb_Wx Φ cells slots pc Lv st G E := by
  obtain ⟨p, l, e, R, s, m, args, below, meth, c, Q, X, A, ad0, G0⟩ := Φ
  intro ad H locs ls q ce hP hn hS hl ho hv h1 h2 h3
  have hK1 := C.2.2.2.2.2.2.2.2.1
  have hlk9 : meth.locks = false := C.2.2.2.2.2.1
  have hend : ∀ ls', W p l e R s m args below meth c H locs cells slots Q (F0 m pc1 ls' []) := by
    intro ls'
    refine lv_iconst C.1 C.2.1 di hv0 ?_
    rw [hp2] at dr
    exact W.widen hc hs (hE.2 H locs _ (W.iret C.1 C.2.1 hE.1 (fun t ht hW => ⟨⟨some (rbI v), G, ad, rfl, hp, hn, (fun w h => by cases h; exact rb_ok_i _ _), by rw [ht]; exact hP⟩, hS.F ht⟩) hS.2.2 dr hlk9))
  refine vx_catch (name := E) C.2.2.2.1 pre x suf (T.trans hsplit) (fun z hz => Or.inr ?_) hx h0 (C.2.2.2.2.1 _ hlk) (va_Nw.use rfl (hK1.2.2.1 _ hce)) h1 h2 h3 ?_
  · obtain ⟨z0, nm, z1, z2⟩ := hpass z hz
    exact ⟨z0, nm, C.2.2.2.2.1 _ z1, hK1.2.2.2.1 _ z2⟩
  · rcases da with ⟨da, e1⟩ | ⟨da, e0, e1⟩
    · rw [e1] at hend
      exact lv_astore C.1 C.2.1 da hl hi rfl (fun ls' _ => hend ls')
    · rw [e1] at hend
      exact lv_astore_n C.1 C.2.1 da rfl hl (by rw [e0] at hi; exact hi) rfl (fun ls' _ => hend ls')
def rb_SWc (own : String) (idx : Nat) (y : MethodName) (b : ByteArray) (n : Nat) (ret : Option FieldType) (hh : List (Nat × Nat × Nat × Nat)) (k : Nat) : Prop := Cond.methodLink own idx y ∈ TS ∧ Cond.static y ∈ TS ∧ Cond.initialized y.cls ∈ TS ∧ Cond.codeWith y b n ret hh ∈ TS ∧
  (y.cls ≠ "java/lang/invoke/MethodHandle" ∧ y.cls ≠ "java/lang/invoke/VarHandle" ∧ (parseMethodDescriptor y.desc).map (fun d => d.parameters.length) = some k)
theorem rb_callSW (C : rb_C Φ own cc nL fr lo mc ms) {idx n k fr' lo' mc' ms' : Nat} {y : MethodName} {b : ByteArray} {ret : Option FieldType} {hh : List (Nat × Nat × Nat × Nat)} {Post : Option rb_V → rb_G → Prop}
    (F : rb_SWc own idx y b n ret hh k) (hM : ∀ l X, rb_N l X y (.codeWith y b n ret hh) fr' lo' mc' ms' As G Post) (hd : decode cc pc = .ok (.invokestatic idx, 3)) (hst : st = As.reverse ++ rest) (hk9 : As.length = k) (hlen : Lv.length = nL) (hcat : (rest.map rb_cat).sum ≤ 8)
    (hroom : fr' + 1 ≤ fr ∧ 8 + (n + 11) + lo' ≤ lo) (hc9 : cells + mc' ≤ mc) (hs9 : slots + ms' ≤ ms) (kk : ∀ v G', Post v G' → rb_W Φ (cells + mc') (slots + ms') (pc + 3) Lv (v.toList ++ rest) G') : rb_W Φ cells slots pc Lv st G := by
  obtain ⟨p, l, e, R, s, m, args, below, meth, c, Q, X, A, ad0, G0⟩ := Φ
  intro ad H locs ls hP hn hS hl ho hv
  subst hst
  have hK1 := C.2.2.2.2.2.2.2.2.1
  have hR := C.2.2.2.2.2.2.1
  subst hR
  obtain ⟨w1, w2, w4, w5, w6⟩ := F
  have hor : rb_okL G rest := fun v hv => ho v (List.mem_append_right _ hv)
  have hoa : rb_okL G As := fun v h => ho v (List.mem_append_left _ (List.mem_reverse.mpr h))
  have hG : GoodIn TS (va_wsS own idx y (Cond.codeWith y b n ret hh :: TS)) := fun w hw => by
    unfold va_wsS at hw
    rcases List.mem_append.mp hw with h | h
    · simp only [List.mem_cons, List.not_mem_nil, or_false] at h
      rcases h with rfl | rfl | rfl
      · exact ts_good _ w1
      · exact ts_good _ w2
      · exact ts_good _ w4
    · exact ts_code w5 w h
  have hrun := vx_runSW (R := ({ frames := fr, cells := mc, slots := ms, locals := lo } : Room)) (n := k) (ret := ret) (maxL := n) (bytes := b) (hh := hh) (As := As.map (rb_c ad)) (rest := rest.map (rb_c ad)) (cells := cells) (slots := slots) (locs := locs) (e := e) (p := p) (H := H) (g := F0 m pc ls ((As.reverse ++ rest).map (rb_c ad)))
    (meth := meth) (below := below) ⟨C.1, C.2.1, C.2.2.1, C.2.2.2.1, C.2.2.2.2.1⟩ (hM l X C.2.2.2.2.2.2.2.1 A ad) (vx_cwSW k C.2.2.2.2.1 hG rfl rfl rfl w6 hroom)
    ⟨rb_blind, fun U hU hW => ⟨rfl, fun q hq => C.2.2.2.2.2.2.2.2.2.2 q (Nat.le_trans hS.1 (by rw [← hU]; exact hq)), by rw [hU]; exact hP, hK1.warm hW, by rw [hU]; exact C.2.2.2.2.2.2.2.2.2.1.moved hW.alike hS.1 hS.2.1, hoa⟩⟩
    rfl (by rw [List.length_map]; exact hk9) (by show ls.size = nL; rw [hl.1, hlen]) (by show (As.reverse ++ rest).map (rb_c ad) = _; rw [List.map_append, List.map_reverse])
    (lv_room (by rw [List.map_map, show ((fun v => Value.category v) ∘ rb_c ad) = rb_cat from funext fun v => rb_cat_c ad v]; exact hcat)) hd ⟨hc9, hs9⟩
  exact rb_after (PX := fun _ _ => False) (rb_run_x hrun) hn hS hl hor hv kk (fun E G' h => h.elim)
end
end
section
/-! facts of the tables, by place (a program wrote them) -/
theorem ts_sub {ws : List Cond} (ps : List Nat) (hp : ws = ps.filterMap (fun i => lw_tbl[i]?)) (h : ws.all goodWord = true) : ∀ w ∈ ws, w ∈ TS := by
  intro w hw
  have h1 := List.all_eq_true.mp h w hw
  rw [hp] at hw
  obtain ⟨i, -, hi⟩ := List.mem_filterMap.mp hw
  exact ts_mem i hi h1
theorem inC_Jx4a65c : ∀ w ∈ u_ws RJx4a65c TJx4a65c 3, w ∈ TS := ts_sub [85, 81, 83] (by decide +kernel) (by decide +kernel)
theorem inC_X0 : ∀ w ∈ u_ws RX0 TX0 3, w ∈ TS := ts_sub [147, 149, 151] (by decide +kernel) (by decide +kernel)
theorem inC_X1 : ∀ w ∈ u_ws RX1 TX1 7, w ∈ TS := ts_sub [383, 385, 387, 389, 391, 393, 395] (by decide +kernel) (by decide +kernel)
theorem inC_X2 : ∀ w ∈ u_ws RX2 TX2 1, w ∈ TS := ts_sub [104] (by decide +kernel) (by decide +kernel)
theorem inC_X3 : ∀ w ∈ u_ws RX3 TX3 4, w ∈ TS := ts_sub [659, 661, 663, 665] (by decide +kernel) (by decide +kernel)
theorem inC_X4 : ∀ w ∈ u_ws RX4 TX4 5, w ∈ TS := ts_sub [691, 693, 695, 697, 699] (by decide +kernel) (by decide +kernel)
theorem inC_X5 : ∀ w ∈ u_ws RX5 TX5 7, w ∈ TS := ts_sub [119, 121, 123, 125, 127, 129, 131] (by decide +kernel) (by decide +kernel)
theorem inC_X6 : ∀ w ∈ u_ws RX6 TX6 11, w ∈ TS := ts_sub [521, 523, 525, 527, 529, 531, 533, 535, 537, 539, 541] (by decide +kernel) (by decide +kernel)
theorem inC_X7 : ∀ w ∈ u_ws RX7 TX7 7, w ∈ TS := ts_sub [161, 163, 165, 167, 169, 171, 173] (by decide +kernel) (by decide +kernel)
theorem F_Jx4a65c_9 : rb_Fld RJx4a65c 9 0 1 true false (.array (.object "java/lang/Object")) := ⟨RJx4a65c, TJx4a65c, 3, tyJx4a65c, rfl, inC_Jx4a65c, by decide, rfl, by decide, ts_mem 76 (by decide +kernel) rfl, tyJx4a65c_ok, nmJx4a65c, by decide +kernel, rfl, (fun h => nomatch h)⟩
theorem FR_Jx4a65c_9 : rb_FldR RJx4a65c 9 0 1 true := F_Jx4a65c_9.r
theorem F_Jx4a65c_48 : rb_Fld RJx4a65c 48 0 2 false false .int := ⟨RJx4a65c, TJx4a65c, 3, tyJx4a65c, rfl, inC_Jx4a65c, by decide, rfl, by decide, ts_mem 77 (by decide +kernel) rfl, tyJx4a65c_ok, nmJx4a65c, by decide +kernel, rfl, (fun h => nomatch h)⟩
theorem FR_Jx4a65c_48 : rb_FldR RJx4a65c 48 0 2 false := F_Jx4a65c_48.r
theorem F_Jxc12de_7 : rb_Fld RJxc12de 7 0 0 false false .int := ⟨RJx4a65c, TJx4a65c, 3, tyJx4a65c, rfl, inC_Jx4a65c, by decide, rfl, by decide, ts_mem 78 (by decide +kernel) rfl, tyJx4a65c_ok, nmJx4a65c, by decide +kernel, rfl, (fun h => nomatch h)⟩
theorem FR_Jxc12de_7 : rb_FldR RJxc12de 7 0 0 false := F_Jxc12de_7.r
theorem F_X2_9 : rb_Fld RX2 9 3 0 true true (.array .int) := ⟨RX2, TX2, 1, tyX2, rfl, inC_X2, by decide, rfl, by decide, ts_mem 103 (by decide +kernel) rfl, tyX2_ok, nmX2, by decide +kernel, rfl, (fun _ => rfl)⟩
theorem FR_X2_9 : rb_FldR RX2 9 3 0 true := F_X2_9.r
theorem F_X5_12 : rb_Fld RX5 12 6 0 true true (.object RX2) := ⟨RX5, TX5, 7, tyX5, rfl, inC_X5, by decide, rfl, by decide, ts_mem 107 (by decide +kernel) rfl, tyX5_ok, nmX5, by decide +kernel, rfl, (fun _ => rfl)⟩
theorem FR_X5_12 : rb_FldR RX5 12 6 0 true := F_X5_12.r
theorem FR_X7_74 : rb_FldR RX7 74 6 0 true := ⟨RX5, TX5, 7, rfl, inC_X5, by decide, rfl, by decide, ts_mem 108 (by decide +kernel) rfl⟩
theorem F_X7_70 : rb_Fld RX7 70 6 1 false false .boolean := ⟨RX5, TX5, 7, tyX5, rfl, inC_X5, by decide, rfl, by decide, ts_mem 109 (by decide +kernel) rfl, tyX5_ok, nmX5, by decide +kernel, rfl, (fun h => nomatch h)⟩
theorem FR_X7_70 : rb_FldR RX7 70 6 1 false := F_X7_70.r
theorem F_X5_18 : rb_Fld RX5 18 6 2 false false .int := ⟨RX5, TX5, 7, tyX5, rfl, inC_X5, by decide, rfl, by decide, ts_mem 110 (by decide +kernel) rfl, tyX5_ok, nmX5, by decide +kernel, rfl, (fun h => nomatch h)⟩
theorem FR_X5_18 : rb_FldR RX5 18 6 2 false := F_X5_18.r
theorem F_X7_108 : rb_Fld RX7 108 6 2 false false .int := ⟨RX5, TX5, 7, tyX5, rfl, inC_X5, by decide, rfl, by decide, ts_mem 111 (by decide +kernel) rfl, tyX5_ok, nmX5, by decide +kernel, rfl, (fun h => nomatch h)⟩
theorem FR_X7_108 : rb_FldR RX7 108 6 2 false := F_X7_108.r
theorem F_X5_22 : rb_Fld RX5 22 6 3 false false .int := ⟨RX5, TX5, 7, tyX5, rfl, inC_X5, by decide, rfl, by decide, ts_mem 112 (by decide +kernel) rfl, tyX5_ok, nmX5, by decide +kernel, rfl, (fun h => nomatch h)⟩
theorem FR_X5_22 : rb_FldR RX5 22 6 3 false := F_X5_22.r
theorem F_X7_111 : rb_Fld RX7 111 6 3 false false .int := ⟨RX5, TX5, 7, tyX5, rfl, inC_X5, by decide, rfl, by decide, ts_mem 113 (by decide +kernel) rfl, tyX5_ok, nmX5, by decide +kernel, rfl, (fun h => nomatch h)⟩
theorem FR_X7_111 : rb_FldR RX7 111 6 3 false := F_X7_111.r
theorem F_X5_25 : rb_Fld RX5 25 6 4 false false .int := ⟨RX5, TX5, 7, tyX5, rfl, inC_X5, by decide, rfl, by decide, ts_mem 114 (by decide +kernel) rfl, tyX5_ok, nmX5, by decide +kernel, rfl, (fun h => nomatch h)⟩
theorem FR_X5_25 : rb_FldR RX5 25 6 4 false := F_X5_25.r
theorem F_X7_114 : rb_Fld RX7 114 6 4 false false .int := ⟨RX5, TX5, 7, tyX5, rfl, inC_X5, by decide, rfl, by decide, ts_mem 115 (by decide +kernel) rfl, tyX5_ok, nmX5, by decide +kernel, rfl, (fun h => nomatch h)⟩
theorem FR_X7_114 : rb_FldR RX7 114 6 4 false := F_X7_114.r
theorem F_X5_28 : rb_Fld RX5 28 6 5 false false .int := ⟨RX5, TX5, 7, tyX5, rfl, inC_X5, by decide, rfl, by decide, ts_mem 116 (by decide +kernel) rfl, tyX5_ok, nmX5, by decide +kernel, rfl, (fun h => nomatch h)⟩
theorem FR_X5_28 : rb_FldR RX5 28 6 5 false := F_X5_28.r
theorem F_X7_117 : rb_Fld RX7 117 6 5 false false .int := ⟨RX5, TX5, 7, tyX5, rfl, inC_X5, by decide, rfl, by decide, ts_mem 117 (by decide +kernel) rfl, tyX5_ok, nmX5, by decide +kernel, rfl, (fun h => nomatch h)⟩
theorem FR_X7_117 : rb_FldR RX7 117 6 5 false := F_X7_117.r
theorem F_X7_120 : rb_Fld RX7 120 6 6 false false .int := ⟨RX5, TX5, 7, tyX5, rfl, inC_X5, by decide, rfl, by decide, ts_mem 118 (by decide +kernel) rfl, tyX5_ok, nmX5, by decide +kernel, rfl, (fun h => nomatch h)⟩
theorem FR_X7_120 : rb_FldR RX7 120 6 6 false := F_X7_120.r
theorem F_X0_12 : rb_Fld RX0 12 1 0 true true (.object RJx4a65c) := ⟨RX0, TX0, 3, tyX0, rfl, inC_X0, by decide, rfl, by decide, ts_mem 141 (by decide +kernel) rfl, tyX0_ok, nmX0, by decide +kernel, rfl, (fun _ => rfl)⟩
theorem FR_X0_12 : rb_FldR RX0 12 1 0 true := F_X0_12.r
theorem FR_X7_320 : rb_FldR RX7 320 1 0 true := ⟨RX0, TX0, 3, rfl, inC_X0, by decide, rfl, by decide, ts_mem 142 (by decide +kernel) rfl⟩
theorem F_X0_39 : rb_Fld RX0 39 1 1 false false .int := ⟨RX0, TX0, 3, tyX0, rfl, inC_X0, by decide, rfl, by decide, ts_mem 143 (by decide +kernel) rfl, tyX0_ok, nmX0, by decide +kernel, rfl, (fun h => nomatch h)⟩
theorem FR_X0_39 : rb_FldR RX0 39 1 1 false := F_X0_39.r
theorem F_X7_237 : rb_Fld RX7 237 1 1 false false .int := ⟨RX0, TX0, 3, tyX0, rfl, inC_X0, by decide, rfl, by decide, ts_mem 144 (by decide +kernel) rfl, tyX0_ok, nmX0, by decide +kernel, rfl, (fun h => nomatch h)⟩
theorem FR_X7_237 : rb_FldR RX7 237 1 1 false := F_X7_237.r
theorem F_X0_45 : rb_Fld RX0 45 1 2 false false .int := ⟨RX0, TX0, 3, tyX0, rfl, inC_X0, by decide, rfl, by decide, ts_mem 145 (by decide +kernel) rfl, tyX0_ok, nmX0, by decide +kernel, rfl, (fun h => nomatch h)⟩
theorem FR_X0_45 : rb_FldR RX0 45 1 2 false := F_X0_45.r
theorem F_X7_248 : rb_Fld RX7 248 1 2 false false .int := ⟨RX0, TX0, 3, tyX0, rfl, inC_X0, by decide, rfl, by decide, ts_mem 146 (by decide +kernel) rfl, tyX0_ok, nmX0, by decide +kernel, rfl, (fun h => nomatch h)⟩
theorem FR_X7_248 : rb_FldR RX7 248 1 2 false := F_X7_248.r
theorem F_X7_9 : rb_Fld RX7 9 8 0 true true (.array .int) := ⟨RX7, TX7, 7, tyX7, rfl, inC_X7, by decide, rfl, by decide, ts_mem 154 (by decide +kernel) rfl, tyX7_ok, nmX7, by decide +kernel, rfl, (fun _ => rfl)⟩
theorem FR_X7_9 : rb_FldR RX7 9 8 0 true := F_X7_9.r
theorem F_X7_15 : rb_Fld RX7 15 8 1 true true (.array (.object RX5)) := ⟨RX7, TX7, 7, tyX7, rfl, inC_X7, by decide, rfl, by decide, ts_mem 155 (by decide +kernel) rfl, tyX7_ok, nmX7, by decide +kernel, rfl, (fun _ => rfl)⟩
theorem FR_X7_15 : rb_FldR RX7 15 8 1 true := F_X7_15.r
theorem F_X7_21 : rb_Fld RX7 21 8 2 true true (.array (.object RX0)) := ⟨RX7, TX7, 7, tyX7, rfl, inC_X7, by decide, rfl, by decide, ts_mem 156 (by decide +kernel) rfl, tyX7_ok, nmX7, by decide +kernel, rfl, (fun _ => rfl)⟩
theorem FR_X7_21 : rb_FldR RX7 21 8 2 true := F_X7_21.r
theorem F_X7_28 : rb_Fld RX7 28 8 3 true true (.object RJx4a65c) := ⟨RX7, TX7, 7, tyX7, rfl, inC_X7, by decide, rfl, by decide, ts_mem 157 (by decide +kernel) rfl, tyX7_ok, nmX7, by decide +kernel, rfl, (fun _ => rfl)⟩
theorem FR_X7_28 : rb_FldR RX7 28 8 3 true := F_X7_28.r
theorem F_X7_32 : rb_Fld RX7 32 8 4 true true (.object RJx4a65c) := ⟨RX7, TX7, 7, tyX7, rfl, inC_X7, by decide, rfl, by decide, ts_mem 158 (by decide +kernel) rfl, tyX7_ok, nmX7, by decide +kernel, rfl, (fun _ => rfl)⟩
theorem FR_X7_32 : rb_FldR RX7 32 8 4 true := F_X7_32.r
theorem F_X7_35 : rb_Fld RX7 35 8 5 true true (.object RJx4a65c) := ⟨RX7, TX7, 7, tyX7, rfl, inC_X7, by decide, rfl, by decide, ts_mem 159 (by decide +kernel) rfl, tyX7_ok, nmX7, by decide +kernel, rfl, (fun _ => rfl)⟩
theorem FR_X7_35 : rb_FldR RX7 35 8 5 true := F_X7_35.r
theorem F_X7_160 : rb_Fld RX7 160 8 6 false false .int := ⟨RX7, TX7, 7, tyX7, rfl, inC_X7, by decide, rfl, by decide, ts_mem 160 (by decide +kernel) rfl, tyX7_ok, nmX7, by decide +kernel, rfl, (fun h => nomatch h)⟩
theorem FR_X7_160 : rb_FldR RX7 160 8 6 false := F_X7_160.r
theorem F_X1_7 : rb_Fld RX1 7 2 0 false true .int := ⟨RX1, TX1, 7, tyX1, rfl, inC_X1, by decide, rfl, by decide, ts_mem 376 (by decide +kernel) rfl, tyX1_ok, nmX1, by decide +kernel, rfl, (fun _ => rfl)⟩
theorem FR_X1_7 : rb_FldR RX1 7 2 0 false := F_X1_7.r
theorem F_X1_13 : rb_Fld RX1 13 2 1 false true .int := ⟨RX1, TX1, 7, tyX1, rfl, inC_X1, by decide, rfl, by decide, ts_mem 377 (by decide +kernel) rfl, tyX1_ok, nmX1, by decide +kernel, rfl, (fun _ => rfl)⟩
theorem FR_X1_13 : rb_FldR RX1 13 2 1 false := F_X1_13.r
theorem F_X1_16 : rb_Fld RX1 16 2 2 false true .int := ⟨RX1, TX1, 7, tyX1, rfl, inC_X1, by decide, rfl, by decide, ts_mem 378 (by decide +kernel) rfl, tyX1_ok, nmX1, by decide +kernel, rfl, (fun _ => rfl)⟩
theorem FR_X1_16 : rb_FldR RX1 16 2 2 false := F_X1_16.r
theorem F_X1_19 : rb_Fld RX1 19 2 3 false true .int := ⟨RX1, TX1, 7, tyX1, rfl, inC_X1, by decide, rfl, by decide, ts_mem 379 (by decide +kernel) rfl, tyX1_ok, nmX1, by decide +kernel, rfl, (fun _ => rfl)⟩
theorem FR_X1_19 : rb_FldR RX1 19 2 3 false := F_X1_19.r
theorem F_X1_22 : rb_Fld RX1 22 2 4 false true .int := ⟨RX1, TX1, 7, tyX1, rfl, inC_X1, by decide, rfl, by decide, ts_mem 380 (by decide +kernel) rfl, tyX1_ok, nmX1, by decide +kernel, rfl, (fun _ => rfl)⟩
theorem FR_X1_22 : rb_FldR RX1 22 2 4 false := F_X1_22.r
theorem F_X1_25 : rb_Fld RX1 25 2 5 false true .int := ⟨RX1, TX1, 7, tyX1, rfl, inC_X1, by decide, rfl, by decide, ts_mem 381 (by decide +kernel) rfl, tyX1_ok, nmX1, by decide +kernel, rfl, (fun _ => rfl)⟩
theorem FR_X1_25 : rb_FldR RX1 25 2 5 false := F_X1_25.r
theorem F_X1_28 : rb_Fld RX1 28 2 6 false true .int := ⟨RX1, TX1, 7, tyX1, rfl, inC_X1, by decide, rfl, by decide, ts_mem 382 (by decide +kernel) rfl, tyX1_ok, nmX1, by decide +kernel, rfl, (fun _ => rfl)⟩
theorem FR_X1_28 : rb_FldR RX1 28 2 6 false := F_X1_28.r
theorem F_X6_21 : rb_Fld RX6 21 7 0 false true .int := ⟨RX6, TX6, 11, tyX6, rfl, inC_X6, by decide, rfl, by decide, ts_mem 501 (by decide +kernel) rfl, tyX6_ok, nmX6, by decide +kernel, rfl, (fun _ => rfl)⟩
theorem FR_X6_21 : rb_FldR RX6 21 7 0 false := F_X6_21.r
theorem FR_X7_132 : rb_FldR RX7 132 7 0 false := ⟨RX6, TX6, 11, rfl, inC_X6, by decide, rfl, by decide, ts_mem 502 (by decide +kernel) rfl⟩
theorem F_X6_24 : rb_Fld RX6 24 7 1 false true .int := ⟨RX6, TX6, 11, tyX6, rfl, inC_X6, by decide, rfl, by decide, ts_mem 503 (by decide +kernel) rfl, tyX6_ok, nmX6, by decide +kernel, rfl, (fun _ => rfl)⟩
theorem FR_X6_24 : rb_FldR RX6 24 7 1 false := F_X6_24.r
theorem FR_X7_292 : rb_FldR RX7 292 7 1 false := ⟨RX6, TX6, 11, rfl, inC_X6, by decide, rfl, by decide, ts_mem 504 (by decide +kernel) rfl⟩
theorem F_X6_30 : rb_Fld RX6 30 7 2 false true .int := ⟨RX6, TX6, 11, tyX6, rfl, inC_X6, by decide, rfl, by decide, ts_mem 505 (by decide +kernel) rfl, tyX6_ok, nmX6, by decide +kernel, rfl, (fun _ => rfl)⟩
theorem FR_X6_30 : rb_FldR RX6 30 7 2 false := F_X6_30.r
theorem FR_X7_289 : rb_FldR RX7 289 7 2 false := ⟨RX6, TX6, 11, rfl, inC_X6, by decide, rfl, by decide, ts_mem 506 (by decide +kernel) rfl⟩
theorem F_X6_27 : rb_Fld RX6 27 7 3 false false .int := ⟨RX6, TX6, 11, tyX6, rfl, inC_X6, by decide, rfl, by decide, ts_mem 507 (by decide +kernel) rfl, tyX6_ok, nmX6, by decide +kernel, rfl, (fun h => nomatch h)⟩
theorem FR_X6_27 : rb_FldR RX6 27 7 3 false := F_X6_27.r
theorem F_X7_58 : rb_Fld RX7 58 7 3 false false .int := ⟨RX6, TX6, 11, tyX6, rfl, inC_X6, by decide, rfl, by decide, ts_mem 508 (by decide +kernel) rfl, tyX6_ok, nmX6, by decide +kernel, rfl, (fun h => nomatch h)⟩
theorem FR_X7_58 : rb_FldR RX7 58 7 3 false := F_X7_58.r
theorem F_X6_9 : rb_Fld RX6 9 7 4 false false .int := ⟨RX6, TX6, 11, tyX6, rfl, inC_X6, by decide, rfl, by decide, ts_mem 509 (by decide +kernel) rfl, tyX6_ok, nmX6, by decide +kernel, rfl, (fun h => nomatch h)⟩
theorem FR_X6_9 : rb_FldR RX6 9 7 4 false := F_X6_9.r
theorem F_X7_142 : rb_Fld RX7 142 7 4 false false .int := ⟨RX6, TX6, 11, tyX6, rfl, inC_X6, by decide, rfl, by decide, ts_mem 510 (by decide +kernel) rfl, tyX6_ok, nmX6, by decide +kernel, rfl, (fun h => nomatch h)⟩
theorem FR_X7_142 : rb_FldR RX7 142 7 4 false := F_X7_142.r
theorem F_X6_15 : rb_Fld RX6 15 7 5 false false .int := ⟨RX6, TX6, 11, tyX6, rfl, inC_X6, by decide, rfl, by decide, ts_mem 511 (by decide +kernel) rfl, tyX6_ok, nmX6, by decide +kernel, rfl, (fun h => nomatch h)⟩
theorem FR_X6_15 : rb_FldR RX6 15 7 5 false := F_X6_15.r
theorem F_X7_171 : rb_Fld RX7 171 7 5 false false .int := ⟨RX6, TX6, 11, tyX6, rfl, inC_X6, by decide, rfl, by decide, ts_mem 512 (by decide +kernel) rfl, tyX6_ok, nmX6, by decide +kernel, rfl, (fun h => nomatch h)⟩
theorem FR_X7_171 : rb_FldR RX7 171 7 5 false := F_X7_171.r
theorem F_X7_139 : rb_Fld RX7 139 7 6 false false .int := ⟨RX6, TX6, 11, tyX6, rfl, inC_X6, by decide, rfl, by decide, ts_mem 513 (by decide +kernel) rfl, tyX6_ok, nmX6, by decide +kernel, rfl, (fun h => nomatch h)⟩
theorem FR_X7_139 : rb_FldR RX7 139 7 6 false := F_X7_139.r
theorem F_X6_18 : rb_Fld RX6 18 7 7 false false .int := ⟨RX6, TX6, 11, tyX6, rfl, inC_X6, by decide, rfl, by decide, ts_mem 514 (by decide +kernel) rfl, tyX6_ok, nmX6, by decide +kernel, rfl, (fun h => nomatch h)⟩
theorem FR_X6_18 : rb_FldR RX6 18 7 7 false := F_X6_18.r
theorem F_X7_191 : rb_Fld RX7 191 7 7 false false .int := ⟨RX6, TX6, 11, tyX6, rfl, inC_X6, by decide, rfl, by decide, ts_mem 515 (by decide +kernel) rfl, tyX6_ok, nmX6, by decide +kernel, rfl, (fun h => nomatch h)⟩
theorem FR_X7_191 : rb_FldR RX7 191 7 7 false := F_X7_191.r
theorem F_X6_37 : rb_Fld RX6 37 7 8 false false .boolean := ⟨RX6, TX6, 11, tyX6, rfl, inC_X6, by decide, rfl, by decide, ts_mem 516 (by decide +kernel) rfl, tyX6_ok, nmX6, by decide +kernel, rfl, (fun h => nomatch h)⟩
theorem FR_X6_37 : rb_FldR RX6 37 7 8 false := F_X6_37.r
theorem F_X7_200 : rb_Fld RX7 200 7 8 false false .boolean := ⟨RX6, TX6, 11, tyX6, rfl, inC_X6, by decide, rfl, by decide, ts_mem 517 (by decide +kernel) rfl, tyX6_ok, nmX6, by decide +kernel, rfl, (fun h => nomatch h)⟩
theorem FR_X7_200 : rb_FldR RX7 200 7 8 false := F_X7_200.r
theorem F_X7_181 : rb_Fld RX7 181 7 9 false false .int := ⟨RX6, TX6, 11, tyX6, rfl, inC_X6, by decide, rfl, by decide, ts_mem 518 (by decide +kernel) rfl, tyX6_ok, nmX6, by decide +kernel, rfl, (fun h => nomatch h)⟩
theorem FR_X7_181 : rb_FldR RX7 181 7 9 false := F_X7_181.r
theorem F_X6_41 : rb_Fld RX6 41 7 10 false false .int := ⟨RX6, TX6, 11, tyX6, rfl, inC_X6, by decide, rfl, by decide, ts_mem 519 (by decide +kernel) rfl, tyX6_ok, nmX6, by decide +kernel, rfl, (fun h => nomatch h)⟩
theorem FR_X6_41 : rb_FldR RX6 41 7 10 false := F_X6_41.r
theorem F_X7_184 : rb_Fld RX7 184 7 10 false false .int := ⟨RX6, TX6, 11, tyX6, rfl, inC_X6, by decide, rfl, by decide, ts_mem 520 (by decide +kernel) rfl, tyX6_ok, nmX6, by decide +kernel, rfl, (fun h => nomatch h)⟩
theorem FR_X7_184 : rb_FldR RX7 184 7 10 false := F_X7_184.r
theorem F_X3_7 : rb_Fld RX3 7 4 0 false true .int := ⟨RX3, TX3, 4, tyX3, rfl, inC_X3, by decide, rfl, by decide, ts_mem 655 (by decide +kernel) rfl, tyX3_ok, nmX3, by decide +kernel, rfl, (fun _ => rfl)⟩
theorem FR_X3_7 : rb_FldR RX3 7 4 0 false := F_X3_7.r
theorem F_X3_13 : rb_Fld RX3 13 4 1 false true .int := ⟨RX3, TX3, 4, tyX3, rfl, inC_X3, by decide, rfl, by decide, ts_mem 656 (by decide +kernel) rfl, tyX3_ok, nmX3, by decide +kernel, rfl, (fun _ => rfl)⟩
theorem FR_X3_13 : rb_FldR RX3 13 4 1 false := F_X3_13.r
theorem F_X3_16 : rb_Fld RX3 16 4 2 false true .int := ⟨RX3, TX3, 4, tyX3, rfl, inC_X3, by decide, rfl, by decide, ts_mem 657 (by decide +kernel) rfl, tyX3_ok, nmX3, by decide +kernel, rfl, (fun _ => rfl)⟩
theorem FR_X3_16 : rb_FldR RX3 16 4 2 false := F_X3_16.r
theorem F_X3_19 : rb_Fld RX3 19 4 3 false true .int := ⟨RX3, TX3, 4, tyX3, rfl, inC_X3, by decide, rfl, by decide, ts_mem 658 (by decide +kernel) rfl, tyX3_ok, nmX3, by decide +kernel, rfl, (fun _ => rfl)⟩
theorem FR_X3_19 : rb_FldR RX3 19 4 3 false := F_X3_19.r
theorem F_X4_18 : rb_Fld RX4 18 5 0 false true .int := ⟨RX4, TX4, 5, tyX4, rfl, inC_X4, by decide, rfl, by decide, ts_mem 682 (by decide +kernel) rfl, tyX4_ok, nmX4, by decide +kernel, rfl, (fun _ => rfl)⟩
theorem FR_X4_18 : rb_FldR RX4 18 5 0 false := F_X4_18.r
theorem FR_X0_32 : rb_FldR RX0 32 5 0 false := ⟨RX4, TX4, 5, rfl, inC_X4, by decide, rfl, by decide, ts_mem 683 (by decide +kernel) rfl⟩
theorem F_X4_21 : rb_Fld RX4 21 5 1 false true .int := ⟨RX4, TX4, 5, tyX4, rfl, inC_X4, by decide, rfl, by decide, ts_mem 684 (by decide +kernel) rfl, tyX4_ok, nmX4, by decide +kernel, rfl, (fun _ => rfl)⟩
theorem FR_X4_21 : rb_FldR RX4 21 5 1 false := F_X4_21.r
theorem FR_X0_48 : rb_FldR RX0 48 5 1 false := ⟨RX4, TX4, 5, rfl, inC_X4, by decide, rfl, by decide, ts_mem 685 (by decide +kernel) rfl⟩
theorem F_X4_24 : rb_Fld RX4 24 5 2 true true (.object RX1) := ⟨RX4, TX4, 5, tyX4, rfl, inC_X4, by decide, rfl, by decide, ts_mem 686 (by decide +kernel) rfl, tyX4_ok, nmX4, by decide +kernel, rfl, (fun _ => rfl)⟩
theorem FR_X4_24 : rb_FldR RX4 24 5 2 true := F_X4_24.r
theorem F_X4_9 : rb_Fld RX4 9 5 3 false false .int := ⟨RX4, TX4, 5, tyX4, rfl, inC_X4, by decide, rfl, by decide, ts_mem 687 (by decide +kernel) rfl, tyX4_ok, nmX4, by decide +kernel, rfl, (fun h => nomatch h)⟩
theorem FR_X4_9 : rb_FldR RX4 9 5 3 false := F_X4_9.r
theorem F_X0_28 : rb_Fld RX0 28 5 3 false false .int := ⟨RX4, TX4, 5, tyX4, rfl, inC_X4, by decide, rfl, by decide, ts_mem 688 (by decide +kernel) rfl, tyX4_ok, nmX4, by decide +kernel, rfl, (fun h => nomatch h)⟩
theorem FR_X0_28 : rb_FldR RX0 28 5 3 false := F_X0_28.r
theorem F_X4_15 : rb_Fld RX4 15 5 4 false false .int := ⟨RX4, TX4, 5, tyX4, rfl, inC_X4, by decide, rfl, by decide, ts_mem 689 (by decide +kernel) rfl, tyX4_ok, nmX4, by decide +kernel, rfl, (fun h => nomatch h)⟩
theorem FR_X4_15 : rb_FldR RX4 15 5 4 false := F_X4_15.r
theorem F_X0_42 : rb_Fld RX0 42 5 4 false false .int := ⟨RX4, TX4, 5, tyX4, rfl, inC_X4, by decide, rfl, by decide, ts_mem 690 (by decide +kernel) rfl, tyX4_ok, nmX4, by decide +kernel, rfl, (fun h => nomatch h)⟩
theorem FR_X0_42 : rb_FldR RX0 42 5 4 false := F_X0_42.r
theorem L_L_9 : Cond.classLink RL 9 RX7 ∈ TS := ts_mem 50 (by decide +kernel) rfl
theorem K_L_9 : rb_Cls RL 9 8 7 := ⟨RX7, TX7, tyX7, rfl, inC_X7, by decide, L_L_9, ts_mem 51 (by decide +kernel) rfl, ts_mem 27 (by decide +kernel) rfl, tyX7_ok, by decide +kernel⟩
theorem L_X7_13 : Cond.classLink RX7 13 RX5 ∈ TS := ts_mem 58 (by decide +kernel) rfl
theorem K_X7_13 : rb_Cls RX7 13 6 7 := ⟨RX5, TX5, tyX5, rfl, inC_X5, by decide, L_X7_13, ts_mem 89 (by decide +kernel) rfl, ts_mem 31 (by decide +kernel) rfl, tyX5_ok, by decide +kernel⟩
theorem L_X7_19 : Cond.classLink RX7 19 RX0 ∈ TS := ts_mem 60 (by decide +kernel) rfl
theorem K_X7_19 : rb_Cls RX7 19 1 3 := ⟨RX0, TX0, tyX0, rfl, inC_X0, by decide, L_X7_19, ts_mem 134 (by decide +kernel) rfl, ts_mem 34 (by decide +kernel) rfl, tyX0_ok, by decide +kernel⟩
theorem L_X7_25 : Cond.classLink RX7 25 RJx4a65c ∈ TS := ts_mem 62 (by decide +kernel) rfl
theorem K_X7_25 : rb_Cls RX7 25 0 3 := ⟨RJx4a65c, TJx4a65c, tyJx4a65c, rfl, inC_Jx4a65c, by decide, L_X7_25, ts_mem 63 (by decide +kernel) rfl, ts_mem 30 (by decide +kernel) rfl, tyJx4a65c_ok, by decide +kernel⟩
theorem L_X5_9 : Cond.classLink RX5 9 RX2 ∈ TS := ts_mem 94 (by decide +kernel) rfl
theorem K_X5_9 : rb_Cls RX5 9 3 1 := ⟨RX2, TX2, tyX2, rfl, inC_X2, by decide, L_X5_9, ts_mem 95 (by decide +kernel) rfl, ts_mem 32 (by decide +kernel) rfl, tyX2_ok, by decide +kernel⟩
theorem L_X0_9 : Cond.classLink RX0 9 RJx4a65c ∈ TS := ts_mem 139 (by decide +kernel) rfl
theorem K_X0_9 : rb_Cls RX0 9 0 3 := ⟨RJx4a65c, TJx4a65c, tyJx4a65c, rfl, inC_Jx4a65c, by decide, L_X0_9, ts_mem 63 (by decide +kernel) rfl, ts_mem 30 (by decide +kernel) rfl, tyJx4a65c_ok, by decide +kernel⟩
theorem L_L_14 : Cond.classLink RL 14 "java/lang/IndexOutOfBoundsException" ∈ TS := ts_mem 186 (by decide +kernel) rfl
theorem L_L_16 : Cond.classLink RL 16 "java/lang/IllegalArgumentException" ∈ TS := ts_mem 187 (by decide +kernel) rfl
theorem L_X7_243 : Cond.classLink RX7 243 "java/lang/IndexOutOfBoundsException" ∈ TS := ts_mem 200 (by decide +kernel) rfl
theorem L_X7_194 : Cond.classLink RX7 194 "java/lang/IllegalArgumentException" ∈ TS := ts_mem 271 (by decide +kernel) rfl
theorem L_X7_56 : Cond.classLink RX7 56 RX6 ∈ TS := ts_mem 305 (by decide +kernel) rfl
theorem K_X7_56 : rb_Cls RX7 56 7 11 := ⟨RX6, TX6, tyX6, rfl, inC_X6, by decide, L_X7_56, ts_mem 496 (by decide +kernel) rfl, ts_mem 47 (by decide +kernel) rfl, tyX6_ok, by decide +kernel⟩
theorem L_L_26 : Cond.classLink RL 26 "java/lang/IllegalStateException" ∈ TS := ts_mem 340 (by decide +kernel) rfl
theorem L_X7_145 : Cond.classLink RX7 145 "java/lang/IllegalStateException" ∈ TS := ts_mem 354 (by decide +kernel) rfl
theorem L_X7_99 : Cond.classLink RX7 99 RX1 ∈ TS := ts_mem 370 (by decide +kernel) rfl
theorem K_X7_99 : rb_Cls RX7 99 2 7 := ⟨RX1, TX1, tyX1, rfl, inC_X1, by decide, L_X7_99, ts_mem 371 (by decide +kernel) rfl, ts_mem 43 (by decide +kernel) rfl, tyX1_ok, by decide +kernel⟩
theorem L_J7_110 : Cond.classLink RJ7 110 "[Ljava/lang/Object;" ∈ TS := ts_mem 446 (by decide +kernel) rfl
theorem L_J7_2 : Cond.classLink RJ7 2 "java/lang/Object" ∈ TS := ts_mem 448 (by decide +kernel) rfl
theorem L_Jx4a65c_7 : Cond.classLink RJx4a65c 7 "java/lang/Object" ∈ TS := ts_mem 456 (by decide +kernel) rfl
theorem L_X7_218 : Cond.classLink RX7 218 RX3 ∈ TS := ts_mem 649 (by decide +kernel) rfl
theorem K_X7_218 : rb_Cls RX7 218 4 4 := ⟨RX3, TX3, tyX3, rfl, inC_X3, by decide, L_X7_218, ts_mem 650 (by decide +kernel) rfl, ts_mem 48 (by decide +kernel) rfl, tyX3_ok, by decide +kernel⟩
theorem L_X7_323 : Cond.classLink RX7 323 RX4 ∈ TS := ts_mem 676 (by decide +kernel) rfl
theorem K_X7_323 : rb_Cls RX7 323 5 5 := ⟨RX4, TX4, tyX4, rfl, inC_X4, by decide, L_X7_323, ts_mem 677 (by decide +kernel) rfl, ts_mem 49 (by decide +kernel) rfl, tyX4_ok, by decide +kernel⟩
theorem L_X0_26 : Cond.classLink RX0 26 RX4 ∈ TS := ts_mem 719 (by decide +kernel) rfl
theorem K_X0_26 : rb_Cls RX0 26 5 5 := ⟨RX4, TX4, tyX4, rfl, inC_X4, by decide, L_X0_26, ts_mem 677 (by decide +kernel) rfl, ts_mem 49 (by decide +kernel) rfl, tyX4_ok, by decide +kernel⟩
theorem M_L_138 : rb_Ic RL 138 yX7_init cX7_init 2 0 := ⟨ts_mem 52 (by decide +kernel) rfl, ts_mem 53 (by decide +kernel) rfl, ts_mem 27 (by decide +kernel) rfl, ts_mem 54 (by decide +kernel) rfl, rfl, by decide +kernel⟩
theorem M_X7_1 : Cond.methodLink RX7 1 objectInit ∈ TS := ts_mem 55 (by decide +kernel) rfl
theorem M_X7_27 : rb_Ic RX7 27 yJx4a65c_init_da8c8 cJx4a65c_init_da8c8 1 0 := ⟨ts_mem 64 (by decide +kernel) rfl, ts_mem 65 (by decide +kernel) rfl, ts_mem 30 (by decide +kernel) rfl, ts_mem 66 (by decide +kernel) rfl, rfl, by decide +kernel⟩
theorem M_Jx4a65c_1 : rb_Ic RJx4a65c 1 yJxc12de_init_da8c8 cJxc12de_init_da8c8 1 0 := ⟨ts_mem 67 (by decide +kernel) rfl, ts_mem 68 (by decide +kernel) rfl, ts_mem 29 (by decide +kernel) rfl, ts_mem 69 (by decide +kernel) rfl, rfl, by decide +kernel⟩
theorem M_Jxc12de_1 : rb_Ic RJxc12de 1 yJxa1e45_init_da8c8 cJxa1e45_init_da8c8 1 0 := ⟨ts_mem 70 (by decide +kernel) rfl, ts_mem 71 (by decide +kernel) rfl, ts_mem 28 (by decide +kernel) rfl, ts_mem 72 (by decide +kernel) rfl, rfl, by decide +kernel⟩
theorem M_Jxa1e45_1 : Cond.methodLink RJxa1e45 1 objectInit ∈ TS := ts_mem 73 (by decide +kernel) rfl
theorem M_X5_3 : Cond.methodLink RX5 3 objectInit ∈ TS := ts_mem 93 (by decide +kernel) rfl
theorem M_X5_11 : rb_Ic RX5 11 yX2_init cX2_init 1 0 := ⟨ts_mem 96 (by decide +kernel) rfl, ts_mem 97 (by decide +kernel) rfl, ts_mem 32 (by decide +kernel) rfl, ts_mem 98 (by decide +kernel) rfl, rfl, by decide +kernel⟩
theorem M_X2_3 : Cond.methodLink RX2 3 objectInit ∈ TS := ts_mem 99 (by decide +kernel) rfl
theorem M_X2_15 : rb_Sc RX2 15 yJ7_fill_53178 cJ7_fill_53178 4 none 2 := ⟨ts_mem 100 (by decide +kernel) rfl, ts_mem 101 (by decide +kernel) rfl, ts_mem 33 (by decide +kernel) rfl, ts_mem 102 (by decide +kernel) rfl, by decide +kernel⟩
theorem M_X0_3 : Cond.methodLink RX0 3 objectInit ∈ TS := ts_mem 138 (by decide +kernel) rfl
theorem M_X0_11 : rb_Ic RX0 11 yJx4a65c_init_da8c8 cJx4a65c_init_da8c8 1 0 := ⟨ts_mem 140 (by decide +kernel) rfl, ts_mem 65 (by decide +kernel) rfl, ts_mem 30 (by decide +kernel) rfl, ts_mem 66 (by decide +kernel) rfl, rfl, by decide +kernel⟩
theorem M_L_139 : rb_Sc RL 139 yL_cell cL_cell 2 (some .int) 2 := ⟨ts_mem 176 (by decide +kernel) rfl, ts_mem 177 (by decide +kernel) rfl, ts_mem 26 (by decide +kernel) rfl, ts_mem 178 (by decide +kernel) rfl, by decide +kernel⟩
theorem M_L_124 : rb_Sc RL 124 yL_low cL_low 2 (some .int) 2 := ⟨ts_mem 180 (by decide +kernel) rfl, ts_mem 181 (by decide +kernel) rfl, ts_mem 26 (by decide +kernel) rfl, ts_mem 182 (by decide +kernel) rfl, by decide +kernel⟩
theorem M_L_144 : rb_SWc RL 144 yL_reach cL_reach 5 (some .int) [(0, 7, 10, 14), (0, 7, 16, 16)] 3 := ⟨ts_mem 183 (by decide +kernel) rfl, ts_mem 184 (by decide +kernel) rfl, ts_mem 26 (by decide +kernel) rfl, ts_mem 185 (by decide +kernel) rfl, by decide +kernel⟩
theorem M_L_8 : rb_Vc RL 8 RX7 yX7_reach cX7_reach 6 (some .int) 2 := ⟨ts_mem 188 (by decide +kernel) rfl, ts_mem 189 (by decide +kernel) rfl, ts_mem 190 (by decide +kernel) rfl, ts_mem 27 (by decide +kernel) rfl, ts_mem 191 (by decide +kernel) rfl, by decide +kernel⟩
theorem M_X7_40 : rb_Vc RX7 40 RX7 yX7_receivedAt cX7_receivedAt 2 (some .int) 1 := ⟨ts_mem 192 (by decide +kernel) rfl, ts_mem 194 (by decide +kernel) rfl, ts_mem 0 (by decide +kernel) rfl, ts_mem 27 (by decide +kernel) rfl, ts_mem 195 (by decide +kernel) rfl, by decide +kernel⟩
theorem M_X7_126 : rb_Vc RX7 126 RX7 yX7_requirePlace cX7_requirePlace 2 none 1 := ⟨ts_mem 196 (by decide +kernel) rfl, ts_mem 198 (by decide +kernel) rfl, ts_mem 1 (by decide +kernel) rfl, ts_mem 27 (by decide +kernel) rfl, ts_mem 199 (by decide +kernel) rfl, by decide +kernel⟩
theorem M_X7_44 : rb_Sc RX7 44 yX7_requireRange cX7_requireRange 3 none 3 := ⟨ts_mem 268 (by decide +kernel) rfl, ts_mem 269 (by decide +kernel) rfl, ts_mem 27 (by decide +kernel) rfl, ts_mem 270 (by decide +kernel) rfl, by decide +kernel⟩
theorem M_X7_48 : rb_Vc RX7 48 RJx4a65c yJx4a65c_size_8abf5 cJx4a65c_size_8abf5 1 (some .int) 0 := ⟨ts_mem 287 (by decide +kernel) rfl, ts_mem 288 (by decide +kernel) rfl, ts_mem 289 (by decide +kernel) rfl, ts_mem 30 (by decide +kernel) rfl, ts_mem 290 (by decide +kernel) rfl, by decide +kernel⟩
theorem M_X7_52 : rb_Vc RX7 52 RJx4a65c yJx4a65c_get_915e3 cJx4a65c_get_915e3 2 (some (.object "java/lang/Object")) 1 := ⟨ts_mem 291 (by decide +kernel) rfl, ts_mem 292 (by decide +kernel) rfl, ts_mem 293 (by decide +kernel) rfl, ts_mem 30 (by decide +kernel) rfl, ts_mem 294 (by decide +kernel) rfl, by decide +kernel⟩
theorem M_Jx4a65c_118 : rb_Sc RJx4a65c 118 yJ15_checkIndex_7cf53 cJ15_checkIndex_7cf53 2 (some .int) 2 := ⟨ts_mem 295 (by decide +kernel) rfl, ts_mem 296 (by decide +kernel) rfl, ts_mem 40 (by decide +kernel) rfl, ts_mem 297 (by decide +kernel) rfl, by decide +kernel⟩
theorem M_J15_105 : rb_Sc RJ15 105 yJ3_checkIndex_8e157 cJ3_checkIndex_8e157 3 (some .int) 3 := ⟨ts_mem 298 (by decide +kernel) rfl, ts_mem 299 (by decide +kernel) rfl, ts_mem 41 (by decide +kernel) rfl, ts_mem 300 (by decide +kernel) rfl, by decide +kernel⟩
theorem M_Jx4a65c_123 : rb_Vc RJx4a65c 123 RJx4a65c yJx4a65c_elementData_915e3 cJx4a65c_elementData_915e3 2 (some (.object "java/lang/Object")) 1 := ⟨ts_mem 301 (by decide +kernel) rfl, ts_mem 302 (by decide +kernel) rfl, ts_mem 303 (by decide +kernel) rfl, ts_mem 30 (by decide +kernel) rfl, ts_mem 304 (by decide +kernel) rfl, by decide +kernel⟩
theorem M_X7_62 : rb_Vc RX7 62 RX7 yX7_detachIfNotReceived cX7_detachIfNotReceived 2 none 1 := ⟨ts_mem 306 (by decide +kernel) rfl, ts_mem 308 (by decide +kernel) rfl, ts_mem 3 (by decide +kernel) rfl, ts_mem 27 (by decide +kernel) rfl, ts_mem 309 (by decide +kernel) rfl, by decide +kernel⟩
theorem M_X7_167 : rb_Sc RX7 167 yX7_isIn cX7_isIn 2 (some .boolean) 2 := ⟨ts_mem 310 (by decide +kernel) rfl, ts_mem 311 (by decide +kernel) rfl, ts_mem 27 (by decide +kernel) rfl, ts_mem 312 (by decide +kernel) rfl, by decide +kernel⟩
theorem M_L_146 : rb_SWc RL 146 yL_dead cL_dead 5 (some .int) [(0, 7, 10, 14)] 3 := ⟨ts_mem 313 (by decide +kernel) rfl, ts_mem 314 (by decide +kernel) rfl, ts_mem 26 (by decide +kernel) rfl, ts_mem 315 (by decide +kernel) rfl, by decide +kernel⟩
theorem M_L_18 : rb_Vc RL 18 RX7 yX7_dead cX7_dead 5 (some .boolean) 2 := ⟨ts_mem 316 (by decide +kernel) rfl, ts_mem 317 (by decide +kernel) rfl, ts_mem 318 (by decide +kernel) rfl, ts_mem 27 (by decide +kernel) rfl, ts_mem 319 (by decide +kernel) rfl, by decide +kernel⟩
theorem M_X7_66 : rb_Vc RX7 66 RX7 yX7_networkAt cX7_networkAt 2 (some (.object "RoamBooks$Network")) 1 := ⟨ts_mem 320 (by decide +kernel) rfl, ts_mem 322 (by decide +kernel) rfl, ts_mem 4 (by decide +kernel) rfl, ts_mem 27 (by decide +kernel) rfl, ts_mem 323 (by decide +kernel) rfl, by decide +kernel⟩
theorem M_X7_87 : rb_Vc RX7 87 RX7 yX7_requireNetwork cX7_requireNetwork 2 none 1 := ⟨ts_mem 324 (by decide +kernel) rfl, ts_mem 326 (by decide +kernel) rfl, ts_mem 5 (by decide +kernel) rfl, ts_mem 27 (by decide +kernel) rfl, ts_mem 327 (by decide +kernel) rfl, by decide +kernel⟩
theorem M_X7_78 : rb_Vc RX7 78 RX2 yX2_clear cX2_clear 1 none 0 := ⟨ts_mem 329 (by decide +kernel) rfl, ts_mem 330 (by decide +kernel) rfl, ts_mem 331 (by decide +kernel) rfl, ts_mem 32 (by decide +kernel) rfl, ts_mem 332 (by decide +kernel) rfl, by decide +kernel⟩
theorem M_X7_83 : rb_Vc RX7 83 RX7 yX7_detachAllFrom cX7_detachAllFrom 4 none 1 := ⟨ts_mem 333 (by decide +kernel) rfl, ts_mem 335 (by decide +kernel) rfl, ts_mem 6 (by decide +kernel) rfl, ts_mem 27 (by decide +kernel) rfl, ts_mem 336 (by decide +kernel) rfl, by decide +kernel⟩
theorem M_L_153 : rb_SWc RL 153 yL_agree cL_agree 10 (some .int) [(0, 17, 20, 14), (0, 17, 26, 16), (0, 17, 32, 26)] 8 := ⟨ts_mem 337 (by decide +kernel) rfl, ts_mem 338 (by decide +kernel) rfl, ts_mem 26 (by decide +kernel) rfl, ts_mem 339 (by decide +kernel) rfl, by decide +kernel⟩
theorem M_L_22 : rb_Vc RL 22 RX7 yX7_agree cX7_agree 8 (some .int) 7 := ⟨ts_mem 341 (by decide +kernel) rfl, ts_mem 342 (by decide +kernel) rfl, ts_mem 343 (by decide +kernel) rfl, ts_mem 27 (by decide +kernel) rfl, ts_mem 344 (by decide +kernel) rfl, by decide +kernel⟩
theorem M_X7_90 : rb_Sc RX7 90 yX7_requireDifferent cX7_requireDifferent 2 none 2 := ⟨ts_mem 345 (by decide +kernel) rfl, ts_mem 346 (by decide +kernel) rfl, ts_mem 27 (by decide +kernel) rfl, ts_mem 347 (by decide +kernel) rfl, by decide +kernel⟩
theorem M_X7_96 : rb_Sc RX7 96 yX7_requireRoom cX7_requireRoom 2 none 2 := ⟨ts_mem 351 (by decide +kernel) rfl, ts_mem 352 (by decide +kernel) rfl, ts_mem 27 (by decide +kernel) rfl, ts_mem 353 (by decide +kernel) rfl, by decide +kernel⟩
theorem M_X7_101 : rb_Ic RX7 101 yX1_init cX1_init 8 7 := ⟨ts_mem 372 (by decide +kernel) rfl, ts_mem 373 (by decide +kernel) rfl, ts_mem 43 (by decide +kernel) rfl, ts_mem 374 (by decide +kernel) rfl, rfl, by decide +kernel⟩
theorem M_X1_1 : Cond.methodLink RX1 1 objectInit ∈ TS := ts_mem 375 (by decide +kernel) rfl
theorem M_X7_104 : rb_Vc RX7 104 RJx4a65c yJx4a65c_add_9ea2d cJx4a65c_add_9ea2d 2 (some .boolean) 1 := ⟨ts_mem 398 (by decide +kernel) rfl, ts_mem 399 (by decide +kernel) rfl, ts_mem 400 (by decide +kernel) rfl, ts_mem 30 (by decide +kernel) rfl, ts_mem 401 (by decide +kernel) rfl, by decide +kernel⟩
theorem M_Jx4a65c_131 : rb_Vc RJx4a65c 131 RJx4a65c yJx4a65c_add_72be8 cJx4a65c_add_72be8 4 none 3 := ⟨ts_mem 402 (by decide +kernel) rfl, ts_mem 404 (by decide +kernel) rfl, ts_mem 7 (by decide +kernel) rfl, ts_mem 30 (by decide +kernel) rfl, ts_mem 405 (by decide +kernel) rfl, by decide +kernel⟩
theorem M_Jx4a65c_129 : rb_Vc RJx4a65c 129 RJx4a65c yJx4a65c_grow_d5877 cJx4a65c_grow_d5877 1 (some (.array (.object "java/lang/Object"))) 0 := ⟨ts_mem 406 (by decide +kernel) rfl, ts_mem 408 (by decide +kernel) rfl, ts_mem 8 (by decide +kernel) rfl, ts_mem 30 (by decide +kernel) rfl, ts_mem 409 (by decide +kernel) rfl, by decide +kernel⟩
theorem M_Jx4a65c_69 : rb_Vc RJx4a65c 69 RJx4a65c yJx4a65c_grow_92f84 cJx4a65c_grow_92f84 4 (some (.array (.object "java/lang/Object"))) 1 := ⟨ts_mem 410 (by decide +kernel) rfl, ts_mem 412 (by decide +kernel) rfl, ts_mem 9 (by decide +kernel) rfl, ts_mem 30 (by decide +kernel) rfl, ts_mem 413 (by decide +kernel) rfl, by decide +kernel⟩
theorem M_Jx4a65c_73 : rb_Sc RJx4a65c 73 yJ8_newLength_cabcc cJ8_newLength_cabcc 4 (some .int) 3 := ⟨ts_mem 414 (by decide +kernel) rfl, ts_mem 415 (by decide +kernel) rfl, ts_mem 44 (by decide +kernel) rfl, ts_mem 416 (by decide +kernel) rfl, by decide +kernel⟩
theorem M_J8_194 : rb_Sc RJ8 194 yJ9_max_7cf53 cJ9_max_7cf53 2 (some .int) 2 := ⟨ts_mem 417 (by decide +kernel) rfl, ts_mem 418 (by decide +kernel) rfl, ts_mem 45 (by decide +kernel) rfl, ts_mem 419 (by decide +kernel) rfl, by decide +kernel⟩
theorem M_J8_201 : rb_Sc RJ8 201 yJ8_hugeLength_7cf53 cJ8_hugeLength_7cf53 3 (some .int) 2 := ⟨ts_mem 421 (by decide +kernel) rfl, ts_mem 422 (by decide +kernel) rfl, ts_mem 44 (by decide +kernel) rfl, ts_mem 423 (by decide +kernel) rfl, by decide +kernel⟩
theorem M_Jx4a65c_66 : rb_Sc RJx4a65c 66 yJ7_copyOf_1904c cJ7_copyOf_1904c 2 (some (.array (.object "java/lang/Object"))) 2 := ⟨ts_mem 424 (by decide +kernel) rfl, ts_mem 425 (by decide +kernel) rfl, ts_mem 33 (by decide +kernel) rfl, ts_mem 426 (by decide +kernel) rfl, by decide +kernel⟩
theorem M_J7_300 : rb_Sc RJ7 300 yJ7_copyOf_6403c cJ7_copyOf_6403c 4 (some (.array (.object "java/lang/Object"))) 3 := ⟨ts_mem 443 (by decide +kernel) rfl, ts_mem 444 (by decide +kernel) rfl, ts_mem 33 (by decide +kernel) rfl, ts_mem 445 (by decide +kernel) rfl, by decide +kernel⟩
theorem M_J7_304 : rb_Sc RJ7 304 yJ9_min_7cf53 cJ9_min_7cf53 2 (some .int) 2 := ⟨ts_mem 449 (by decide +kernel) rfl, ts_mem 450 (by decide +kernel) rfl, ts_mem 45 (by decide +kernel) rfl, ts_mem 451 (by decide +kernel) rfl, by decide +kernel⟩
theorem M_Jx4a65c_79 : rb_Sc RJx4a65c 79 yJ9_max_7cf53 cJ9_max_7cf53 2 (some .int) 2 := ⟨ts_mem 455 (by decide +kernel) rfl, ts_mem 418 (by decide +kernel) rfl, ts_mem 45 (by decide +kernel) rfl, ts_mem 419 (by decide +kernel) rfl, by decide +kernel⟩
theorem M_L_156 : rb_SWc RL 156 yL_steer cL_steer 5 (some .int) [(0, 7, 10, 14), (0, 7, 16, 16)] 3 := ⟨ts_mem 457 (by decide +kernel) rfl, ts_mem 458 (by decide +kernel) rfl, ts_mem 26 (by decide +kernel) rfl, ts_mem 459 (by decide +kernel) rfl, by decide +kernel⟩
theorem M_L_28 : rb_Vc RL 28 RX7 yX7_steer cX7_steer 5 (some .int) 2 := ⟨ts_mem 460 (by decide +kernel) rfl, ts_mem 461 (by decide +kernel) rfl, ts_mem 462 (by decide +kernel) rfl, ts_mem 27 (by decide +kernel) rfl, ts_mem 463 (by decide +kernel) rfl, by decide +kernel⟩
theorem M_L_158 : rb_SWc RL 158 yL_prices cL_prices 6 (some .int) [(0, 9, 12, 14), (0, 9, 18, 16)] 5 := ⟨ts_mem 464 (by decide +kernel) rfl, ts_mem 465 (by decide +kernel) rfl, ts_mem 26 (by decide +kernel) rfl, ts_mem 466 (by decide +kernel) rfl, by decide +kernel⟩
theorem M_L_31 : rb_Vc RL 31 RX7 yX7_prices cX7_prices 6 none 4 := ⟨ts_mem 467 (by decide +kernel) rfl, ts_mem 468 (by decide +kernel) rfl, ts_mem 469 (by decide +kernel) rfl, ts_mem 27 (by decide +kernel) rfl, ts_mem 470 (by decide +kernel) rfl, by decide +kernel⟩
theorem M_L_161 : rb_SWc RL 161 yL_lose cL_lose 5 (some .int) [(0, 7, 10, 14), (0, 7, 16, 16)] 3 := ⟨ts_mem 471 (by decide +kernel) rfl, ts_mem 472 (by decide +kernel) rfl, ts_mem 26 (by decide +kernel) rfl, ts_mem 473 (by decide +kernel) rfl, by decide +kernel⟩
theorem M_L_35 : rb_Vc RL 35 RX7 yX7_lose cX7_lose 5 (some .int) 2 := ⟨ts_mem 474 (by decide +kernel) rfl, ts_mem 475 (by decide +kernel) rfl, ts_mem 476 (by decide +kernel) rfl, ts_mem 27 (by decide +kernel) rfl, ts_mem 477 (by decide +kernel) rfl, by decide +kernel⟩
theorem M_L_169 : rb_SWc RL 169 yL_crash cL_crash 4 (some .int) [(0, 6, 9, 14)] 2 := ⟨ts_mem 478 (by decide +kernel) rfl, ts_mem 479 (by decide +kernel) rfl, ts_mem 26 (by decide +kernel) rfl, ts_mem 480 (by decide +kernel) rfl, by decide +kernel⟩
theorem M_L_38 : rb_Vc RL 38 RX7 yX7_crash cX7_crash 4 (some .int) 1 := ⟨ts_mem 481 (by decide +kernel) rfl, ts_mem 482 (by decide +kernel) rfl, ts_mem 483 (by decide +kernel) rfl, ts_mem 27 (by decide +kernel) rfl, ts_mem 484 (by decide +kernel) rfl, by decide +kernel⟩
theorem M_X7_123 : rb_Vc RX7 123 RX2 yX2_count cX2_count 3 (some .int) 0 := ⟨ts_mem 485 (by decide +kernel) rfl, ts_mem 486 (by decide +kernel) rfl, ts_mem 487 (by decide +kernel) rfl, ts_mem 32 (by decide +kernel) rfl, ts_mem 488 (by decide +kernel) rfl, by decide +kernel⟩
theorem M_L_163 : rb_SWc RL 163 yL_subscriber cL_subscriber 6 (some .int) [(0, 9, 12, 14), (0, 9, 18, 16), (0, 9, 24, 26)] 4 := ⟨ts_mem 489 (by decide +kernel) rfl, ts_mem 490 (by decide +kernel) rfl, ts_mem 26 (by decide +kernel) rfl, ts_mem 491 (by decide +kernel) rfl, by decide +kernel⟩
theorem M_L_42 : rb_Vc RL 42 RX7 yX7_subscriber cX7_subscriber 5 (some .int) 3 := ⟨ts_mem 492 (by decide +kernel) rfl, ts_mem 493 (by decide +kernel) rfl, ts_mem 494 (by decide +kernel) rfl, ts_mem 27 (by decide +kernel) rfl, ts_mem 495 (by decide +kernel) rfl, by decide +kernel⟩
theorem M_X7_129 : rb_Ic RX7 129 yX6_init cX6_init 5 4 := ⟨ts_mem 497 (by decide +kernel) rfl, ts_mem 498 (by decide +kernel) rfl, ts_mem 47 (by decide +kernel) rfl, ts_mem 499 (by decide +kernel) rfl, rfl, by decide +kernel⟩
theorem M_X6_3 : Cond.methodLink RX6 3 objectInit ∈ TS := ts_mem 500 (by decide +kernel) rfl
theorem M_L_165 : rb_SWc RL 165 yL_move cL_move 5 (some .int) [(0, 7, 10, 14)] 3 := ⟨ts_mem 544 (by decide +kernel) rfl, ts_mem 545 (by decide +kernel) rfl, ts_mem 26 (by decide +kernel) rfl, ts_mem 546 (by decide +kernel) rfl, by decide +kernel⟩
theorem M_L_46 : rb_Vc RL 46 RX7 yX7_move cX7_move 4 (some .int) 2 := ⟨ts_mem 547 (by decide +kernel) rfl, ts_mem 548 (by decide +kernel) rfl, ts_mem 549 (by decide +kernel) rfl, ts_mem 27 (by decide +kernel) rfl, ts_mem 550 (by decide +kernel) rfl, by decide +kernel⟩
theorem M_X7_135 : rb_Vc RX7 135 RX7 yX7_subscriberAt cX7_subscriberAt 2 (some (.object "RoamBooks$Subscriber")) 1 := ⟨ts_mem 551 (by decide +kernel) rfl, ts_mem 553 (by decide +kernel) rfl, ts_mem 10 (by decide +kernel) rfl, ts_mem 27 (by decide +kernel) rfl, ts_mem 554 (by decide +kernel) rfl, by decide +kernel⟩
theorem M_L_167 : rb_SWc RL 167 yL_off cL_off 4 (some .int) [(0, 6, 9, 14)] 2 := ⟨ts_mem 556 (by decide +kernel) rfl, ts_mem 557 (by decide +kernel) rfl, ts_mem 26 (by decide +kernel) rfl, ts_mem 558 (by decide +kernel) rfl, by decide +kernel⟩
theorem M_L_49 : rb_Vc RL 49 RX7 yX7_off cX7_off 4 (some .int) 1 := ⟨ts_mem 559 (by decide +kernel) rfl, ts_mem 560 (by decide +kernel) rfl, ts_mem 561 (by decide +kernel) rfl, ts_mem 27 (by decide +kernel) rfl, ts_mem 562 (by decide +kernel) rfl, by decide +kernel⟩
theorem M_L_171 : rb_SWc RL 171 yL_attach cL_attach 5 (some .int) [(0, 7, 10, 14), (0, 7, 16, 26)] 3 := ⟨ts_mem 563 (by decide +kernel) rfl, ts_mem 564 (by decide +kernel) rfl, ts_mem 26 (by decide +kernel) rfl, ts_mem 565 (by decide +kernel) rfl, by decide +kernel⟩
theorem M_L_52 : rb_Vc RL 52 RX7 yX7_attach cX7_attach 5 (some .int) 2 := ⟨ts_mem 566 (by decide +kernel) rfl, ts_mem 567 (by decide +kernel) rfl, ts_mem 568 (by decide +kernel) rfl, ts_mem 27 (by decide +kernel) rfl, ts_mem 569 (by decide +kernel) rfl, by decide +kernel⟩
theorem M_X7_152 : rb_Vc RX7 152 RX7 yX7_whyNotUsable cX7_whyNotUsable 3 (some .int) 2 := ⟨ts_mem 571 (by decide +kernel) rfl, ts_mem 573 (by decide +kernel) rfl, ts_mem 11 (by decide +kernel) rfl, ts_mem 27 (by decide +kernel) rfl, ts_mem 574 (by decide +kernel) rfl, by decide +kernel⟩
theorem M_X7_295 : rb_Vc RX7 295 RX7 yX7_agreementNow cX7_agreementNow 5 (some (.object "RoamBooks$Agreement")) 2 := ⟨ts_mem 575 (by decide +kernel) rfl, ts_mem 577 (by decide +kernel) rfl, ts_mem 12 (by decide +kernel) rfl, ts_mem 27 (by decide +kernel) rfl, ts_mem 578 (by decide +kernel) rfl, by decide +kernel⟩
theorem M_X7_285 : rb_Vc RX7 285 RX1 yX1_holds cX1_holds 4 (some .boolean) 3 := ⟨ts_mem 579 (by decide +kernel) rfl, ts_mem 580 (by decide +kernel) rfl, ts_mem 581 (by decide +kernel) rfl, ts_mem 43 (by decide +kernel) rfl, ts_mem 582 (by decide +kernel) rfl, by decide +kernel⟩
theorem M_X7_156 : rb_Vc RX7 156 RX7 yX7_isSteered cX7_isSteered 4 (some .boolean) 2 := ⟨ts_mem 583 (by decide +kernel) rfl, ts_mem 585 (by decide +kernel) rfl, ts_mem 13 (by decide +kernel) rfl, ts_mem 27 (by decide +kernel) rfl, ts_mem 586 (by decide +kernel) rfl, by decide +kernel⟩
theorem M_X7_163 : rb_Vc RX7 163 RX7 yX7_makeContact cX7_makeContact 4 none 2 := ⟨ts_mem 587 (by decide +kernel) rfl, ts_mem 589 (by decide +kernel) rfl, ts_mem 14 (by decide +kernel) rfl, ts_mem 27 (by decide +kernel) rfl, ts_mem 590 (by decide +kernel) rfl, by decide +kernel⟩
theorem M_X7_299 : rb_Vc RX7 299 RX2 yX2_put cX2_put 3 none 2 := ⟨ts_mem 591 (by decide +kernel) rfl, ts_mem 592 (by decide +kernel) rfl, ts_mem 593 (by decide +kernel) rfl, ts_mem 32 (by decide +kernel) rfl, ts_mem 594 (by decide +kernel) rfl, by decide +kernel⟩
theorem M_X2_21 : rb_Vc RX2 21 RX2 yX2_isLine cX2_isLine 2 (some .boolean) 1 := ⟨ts_mem 595 (by decide +kernel) rfl, ts_mem 597 (by decide +kernel) rfl, ts_mem 15 (by decide +kernel) rfl, ts_mem 32 (by decide +kernel) rfl, ts_mem 598 (by decide +kernel) rfl, by decide +kernel⟩
theorem M_X7_302 : rb_Vc RX7 302 RX2 yX2_takeOut cX2_takeOut 2 none 1 := ⟨ts_mem 599 (by decide +kernel) rfl, ts_mem 600 (by decide +kernel) rfl, ts_mem 601 (by decide +kernel) rfl, ts_mem 32 (by decide +kernel) rfl, ts_mem 602 (by decide +kernel) rfl, by decide +kernel⟩
theorem M_X2_29 : rb_Vc RX2 29 RX2 yX2_put cX2_put 3 none 2 := ⟨ts_mem 603 (by decide +kernel) rfl, ts_mem 592 (by decide +kernel) rfl, ts_mem 593 (by decide +kernel) rfl, ts_mem 32 (by decide +kernel) rfl, ts_mem 594 (by decide +kernel) rfl, by decide +kernel⟩
theorem M_L_181 : rb_SWc RL 181 yL_cap cL_cap 5 (some .int) [(0, 7, 10, 14), (0, 7, 16, 16)] 4 := ⟨ts_mem 604 (by decide +kernel) rfl, ts_mem 605 (by decide +kernel) rfl, ts_mem 26 (by decide +kernel) rfl, ts_mem 606 (by decide +kernel) rfl, by decide +kernel⟩
theorem M_L_71 : rb_Vc RL 71 RX7 yX7_cap cX7_cap 5 none 3 := ⟨ts_mem 607 (by decide +kernel) rfl, ts_mem 608 (by decide +kernel) rfl, ts_mem 609 (by decide +kernel) rfl, ts_mem 27 (by decide +kernel) rfl, ts_mem 610 (by decide +kernel) rfl, by decide +kernel⟩
theorem M_L_184 : rb_SWc RL 184 yL_call cL_call 6 (some .int) [(0, 9, 12, 14), (0, 9, 18, 16), (0, 9, 24, 26)] 4 := ⟨ts_mem 612 (by decide +kernel) rfl, ts_mem 613 (by decide +kernel) rfl, ts_mem 26 (by decide +kernel) rfl, ts_mem 614 (by decide +kernel) rfl, by decide +kernel⟩
theorem M_L_75 : rb_Vc RL 75 RX7 yX7_call cX7_call 10 (some .int) 3 := ⟨ts_mem 615 (by decide +kernel) rfl, ts_mem 616 (by decide +kernel) rfl, ts_mem 617 (by decide +kernel) rfl, ts_mem 27 (by decide +kernel) rfl, ts_mem 618 (by decide +kernel) rfl, by decide +kernel⟩
theorem M_X7_204 : rb_Vc RX7 204 RX7 yX7_whyNotFound cX7_whyNotFound 3 (some .int) 2 := ⟨ts_mem 620 (by decide +kernel) rfl, ts_mem 622 (by decide +kernel) rfl, ts_mem 16 (by decide +kernel) rfl, ts_mem 27 (by decide +kernel) rfl, ts_mem 623 (by decide +kernel) rfl, by decide +kernel⟩
theorem M_X7_177 : rb_Vc RX7 177 RX2 yX2_has cX2_has 2 (some .boolean) 1 := ⟨ts_mem 624 (by decide +kernel) rfl, ts_mem 625 (by decide +kernel) rfl, ts_mem 626 (by decide +kernel) rfl, ts_mem 32 (by decide +kernel) rfl, ts_mem 627 (by decide +kernel) rfl, by decide +kernel⟩
theorem M_X2_25 : rb_Vc RX2 25 RX2 yX2_latest cX2_latest 2 (some .int) 1 := ⟨ts_mem 628 (by decide +kernel) rfl, ts_mem 629 (by decide +kernel) rfl, ts_mem 630 (by decide +kernel) rfl, ts_mem 32 (by decide +kernel) rfl, ts_mem 631 (by decide +kernel) rfl, by decide +kernel⟩
theorem M_X7_208 : rb_Vc RX7 208 RX7 yX7_priceOfCalling cX7_priceOfCalling 3 (some .int) 1 := ⟨ts_mem 632 (by decide +kernel) rfl, ts_mem 634 (by decide +kernel) rfl, ts_mem 17 (by decide +kernel) rfl, ts_mem 27 (by decide +kernel) rfl, ts_mem 635 (by decide +kernel) rfl, by decide +kernel⟩
theorem M_X7_317 : rb_Vc RX7 317 RX6 yX6_isAbroad cX6_isAbroad 1 (some .boolean) 0 := ⟨ts_mem 636 (by decide +kernel) rfl, ts_mem 637 (by decide +kernel) rfl, ts_mem 638 (by decide +kernel) rfl, ts_mem 47 (by decide +kernel) rfl, ts_mem 639 (by decide +kernel) rfl, by decide +kernel⟩
theorem M_X7_212 : rb_Vc RX7 212 RX7 yX7_priceOfBeingCalled cX7_priceOfBeingCalled 2 (some .int) 1 := ⟨ts_mem 640 (by decide +kernel) rfl, ts_mem 642 (by decide +kernel) rfl, ts_mem 18 (by decide +kernel) rfl, ts_mem 27 (by decide +kernel) rfl, ts_mem 643 (by decide +kernel) rfl, by decide +kernel⟩
theorem M_X7_215 : rb_Vc RX7 215 RX6 yX6_wouldComeAboveCap cX6_wouldComeAboveCap 2 (some .boolean) 1 := ⟨ts_mem 644 (by decide +kernel) rfl, ts_mem 645 (by decide +kernel) rfl, ts_mem 646 (by decide +kernel) rfl, ts_mem 47 (by decide +kernel) rfl, ts_mem 647 (by decide +kernel) rfl, by decide +kernel⟩
theorem M_X6_33 : rb_Vc RX6 33 RX6 yX6_isAbroad cX6_isAbroad 1 (some .boolean) 0 := ⟨ts_mem 648 (by decide +kernel) rfl, ts_mem 637 (by decide +kernel) rfl, ts_mem 638 (by decide +kernel) rfl, ts_mem 47 (by decide +kernel) rfl, ts_mem 639 (by decide +kernel) rfl, by decide +kernel⟩
theorem M_X7_220 : rb_Ic RX7 220 yX3_init cX3_init 5 4 := ⟨ts_mem 651 (by decide +kernel) rfl, ts_mem 652 (by decide +kernel) rfl, ts_mem 48 (by decide +kernel) rfl, ts_mem 653 (by decide +kernel) rfl, rfl, by decide +kernel⟩
theorem M_X3_1 : Cond.methodLink RX3 1 objectInit ∈ TS := ts_mem 654 (by decide +kernel) rfl
theorem M_X7_221 : rb_Vc RX7 221 RX7 yX7_settle cX7_settle 5 none 3 := ⟨ts_mem 668 (by decide +kernel) rfl, ts_mem 670 (by decide +kernel) rfl, ts_mem 19 (by decide +kernel) rfl, ts_mem 27 (by decide +kernel) rfl, ts_mem 671 (by decide +kernel) rfl, by decide +kernel⟩
theorem M_X7_228 : rb_Vc RX7 228 RX7 yX7_accountOf cX7_accountOf 3 (some (.object "RoamBooks$Account")) 2 := ⟨ts_mem 672 (by decide +kernel) rfl, ts_mem 674 (by decide +kernel) rfl, ts_mem 20 (by decide +kernel) rfl, ts_mem 27 (by decide +kernel) rfl, ts_mem 675 (by decide +kernel) rfl, by decide +kernel⟩
theorem M_X7_325 : rb_Ic RX7 325 yX4_init cX4_init 4 3 := ⟨ts_mem 678 (by decide +kernel) rfl, ts_mem 679 (by decide +kernel) rfl, ts_mem 49 (by decide +kernel) rfl, ts_mem 680 (by decide +kernel) rfl, rfl, by decide +kernel⟩
theorem M_X4_3 : Cond.methodLink RX4 3 objectInit ∈ TS := ts_mem 681 (by decide +kernel) rfl
theorem M_L_186 : rb_SWc RL 186 yL_file cL_file 5 (some .int) [(0, 7, 10, 14), (0, 7, 16, 26)] 3 := ⟨ts_mem 702 (by decide +kernel) rfl, ts_mem 703 (by decide +kernel) rfl, ts_mem 26 (by decide +kernel) rfl, ts_mem 704 (by decide +kernel) rfl, by decide +kernel⟩
theorem M_L_81 : rb_Vc RL 81 RX7 yX7_file cX7_file 4 (some .int) 2 := ⟨ts_mem 705 (by decide +kernel) rfl, ts_mem 706 (by decide +kernel) rfl, ts_mem 707 (by decide +kernel) rfl, ts_mem 27 (by decide +kernel) rfl, ts_mem 708 (by decide +kernel) rfl, by decide +kernel⟩
theorem M_X7_232 : rb_Vc RX7 232 RX0 yX0_hasUnfiled cX0_hasUnfiled 1 (some .boolean) 0 := ⟨ts_mem 709 (by decide +kernel) rfl, ts_mem 710 (by decide +kernel) rfl, ts_mem 711 (by decide +kernel) rfl, ts_mem 34 (by decide +kernel) rfl, ts_mem 712 (by decide +kernel) rfl, by decide +kernel⟩
theorem M_X0_35 : rb_Vc RX0 35 RX0 yX0_minutesThatAre cX0_minutesThatAre 5 (some .int) 1 := ⟨ts_mem 713 (by decide +kernel) rfl, ts_mem 714 (by decide +kernel) rfl, ts_mem 715 (by decide +kernel) rfl, ts_mem 34 (by decide +kernel) rfl, ts_mem 716 (by decide +kernel) rfl, by decide +kernel⟩
theorem M_X0_18 : rb_Vc RX0 18 RJx4a65c yJx4a65c_size_8abf5 cJx4a65c_size_8abf5 1 (some .int) 0 := ⟨ts_mem 717 (by decide +kernel) rfl, ts_mem 288 (by decide +kernel) rfl, ts_mem 289 (by decide +kernel) rfl, ts_mem 30 (by decide +kernel) rfl, ts_mem 290 (by decide +kernel) rfl, by decide +kernel⟩
theorem M_X0_22 : rb_Vc RX0 22 RJx4a65c yJx4a65c_get_915e3 cJx4a65c_get_915e3 2 (some (.object "java/lang/Object")) 1 := ⟨ts_mem 718 (by decide +kernel) rfl, ts_mem 292 (by decide +kernel) rfl, ts_mem 293 (by decide +kernel) rfl, ts_mem 30 (by decide +kernel) rfl, ts_mem 294 (by decide +kernel) rfl, by decide +kernel⟩
theorem M_X7_240 : rb_Vc RX7 240 RX0 yX0_fileTheRest cX0_fileTheRest 4 (some .int) 0 := ⟨ts_mem 721 (by decide +kernel) rfl, ts_mem 722 (by decide +kernel) rfl, ts_mem 723 (by decide +kernel) rfl, ts_mem 34 (by decide +kernel) rfl, ts_mem 724 (by decide +kernel) rfl, by decide +kernel⟩
theorem M_L_188 : rb_SWc RL 188 yL_deliver cL_deliver 6 (some .int) [(0, 9, 12, 14)] 4 := ⟨ts_mem 725 (by decide +kernel) rfl, ts_mem 726 (by decide +kernel) rfl, ts_mem 26 (by decide +kernel) rfl, ts_mem 727 (by decide +kernel) rfl, by decide +kernel⟩
theorem M_L_84 : rb_Vc RL 84 RX7 yX7_deliver cX7_deliver 5 (some .int) 3 := ⟨ts_mem 728 (by decide +kernel) rfl, ts_mem 729 (by decide +kernel) rfl, ts_mem 730 (by decide +kernel) rfl, ts_mem 27 (by decide +kernel) rfl, ts_mem 731 (by decide +kernel) rfl, by decide +kernel⟩
theorem M_X7_251 : rb_Vc RX7 251 RX0 yX0_takeNextFile cX0_takeNextFile 5 (some .int) 1 := ⟨ts_mem 733 (by decide +kernel) rfl, ts_mem 734 (by decide +kernel) rfl, ts_mem 735 (by decide +kernel) rfl, ts_mem 34 (by decide +kernel) rfl, ts_mem 736 (by decide +kernel) rfl, by decide +kernel⟩
theorem M_L_191 : rb_SWc RL 191 yL_pass cL_pass 4 (some .int) [(0, 6, 9, 16), (0, 6, 14, 26)] 2 := ⟨ts_mem 738 (by decide +kernel) rfl, ts_mem 739 (by decide +kernel) rfl, ts_mem 26 (by decide +kernel) rfl, ts_mem 740 (by decide +kernel) rfl, by decide +kernel⟩
theorem M_L_96 : rb_Vc RL 96 RX7 yX7_pass cX7_pass 3 (some .int) 1 := ⟨ts_mem 741 (by decide +kernel) rfl, ts_mem 742 (by decide +kernel) rfl, ts_mem 743 (by decide +kernel) rfl, ts_mem 27 (by decide +kernel) rfl, ts_mem 744 (by decide +kernel) rfl, by decide +kernel⟩
theorem M_X7_266 : rb_Vc RX7 266 RX7 yX7_beginHours cX7_beginHours 5 none 2 := ⟨ts_mem 747 (by decide +kernel) rfl, ts_mem 749 (by decide +kernel) rfl, ts_mem 21 (by decide +kernel) rfl, ts_mem 27 (by decide +kernel) rfl, ts_mem 750 (by decide +kernel) rfl, by decide +kernel⟩
theorem M_X7_305 : rb_Sc RX7 305 yJ9_min_7cf53 cJ9_min_7cf53 2 (some .int) 2 := ⟨ts_mem 751 (by decide +kernel) rfl, ts_mem 450 (by decide +kernel) rfl, ts_mem 45 (by decide +kernel) rfl, ts_mem 451 (by decide +kernel) rfl, by decide +kernel⟩
theorem M_X7_311 : rb_Vc RX7 311 RX7 yX7_beginHour cX7_beginHour 4 none 1 := ⟨ts_mem 752 (by decide +kernel) rfl, ts_mem 754 (by decide +kernel) rfl, ts_mem 22 (by decide +kernel) rfl, ts_mem 27 (by decide +kernel) rfl, ts_mem 755 (by decide +kernel) rfl, by decide +kernel⟩
theorem M_X7_314 : rb_Vc RX7 314 RX2 yX2_takeOutUpTo cX2_takeOutUpTo 3 none 1 := ⟨ts_mem 756 (by decide +kernel) rfl, ts_mem 757 (by decide +kernel) rfl, ts_mem 758 (by decide +kernel) rfl, ts_mem 32 (by decide +kernel) rfl, ts_mem 759 (by decide +kernel) rfl, by decide +kernel⟩
theorem M_X7_270 : rb_Vc RX7 270 RX7 yX7_beginMonth cX7_beginMonth 2 none 0 := ⟨ts_mem 761 (by decide +kernel) rfl, ts_mem 763 (by decide +kernel) rfl, ts_mem 23 (by decide +kernel) rfl, ts_mem 27 (by decide +kernel) rfl, ts_mem 764 (by decide +kernel) rfl, by decide +kernel⟩
theorem M_L_101 : rb_Sc RL 101 yL_holds cL_holds 5 (some .int) 4 := ⟨ts_mem 765 (by decide +kernel) rfl, ts_mem 766 (by decide +kernel) rfl, ts_mem 26 (by decide +kernel) rfl, ts_mem 767 (by decide +kernel) rfl, by decide +kernel⟩
theorem M_L_173 : rb_Sc RL 173 yL_reason cL_reason 5 (some .int) 5 := ⟨ts_mem 768 (by decide +kernel) rfl, ts_mem 769 (by decide +kernel) rfl, ts_mem 26 (by decide +kernel) rfl, ts_mem 770 (by decide +kernel) rfl, by decide +kernel⟩
theorem M_L_176 : rb_Sc RL 176 yL_meets cL_meets 6 none 4 := ⟨ts_mem 771 (by decide +kernel) rfl, ts_mem 772 (by decide +kernel) rfl, ts_mem 26 (by decide +kernel) rfl, ts_mem 773 (by decide +kernel) rfl, by decide +kernel⟩
theorem M_L_106 : rb_Sc RL 106 yL_paid cL_paid 8 (some .int) 5 := ⟨ts_mem 774 (by decide +kernel) rfl, ts_mem 775 (by decide +kernel) rfl, ts_mem 26 (by decide +kernel) rfl, ts_mem 776 (by decide +kernel) rfl, by decide +kernel⟩
theorem M_L_110 : rb_SWc RL 110 yL_subscriberIs cL_subscriberIs 5 (some .int) [(0, 7, 10, 14), (0, 7, 16, 16)] 3 := ⟨ts_mem 781 (by decide +kernel) rfl, ts_mem 782 (by decide +kernel) rfl, ts_mem 26 (by decide +kernel) rfl, ts_mem 783 (by decide +kernel) rfl, by decide +kernel⟩
theorem M_L_68 : rb_Vc RL 68 RX7 yX7_subscriberIs cX7_subscriberIs 4 (some .int) 2 := ⟨ts_mem 784 (by decide +kernel) rfl, ts_mem 785 (by decide +kernel) rfl, ts_mem 786 (by decide +kernel) rfl, ts_mem 27 (by decide +kernel) rfl, ts_mem 787 (by decide +kernel) rfl, by decide +kernel⟩
theorem M_X7_187 : rb_Vc RX7 187 RX6 yX6_isWarned cX6_isWarned 1 (some .boolean) 0 := ⟨ts_mem 788 (by decide +kernel) rfl, ts_mem 789 (by decide +kernel) rfl, ts_mem 790 (by decide +kernel) rfl, ts_mem 47 (by decide +kernel) rfl, ts_mem 791 (by decide +kernel) rfl, by decide +kernel⟩
theorem M_L_113 : rb_SWc RL 113 yL_paidAnew cL_paidAnew 4 (some .int) [(0, 6, 9, 14)] 2 := ⟨ts_mem 795 (by decide +kernel) rfl, ts_mem 796 (by decide +kernel) rfl, ts_mem 26 (by decide +kernel) rfl, ts_mem 797 (by decide +kernel) rfl, by decide +kernel⟩
theorem M_L_78 : rb_Vc RL 78 RX7 yX7_paidAnew cX7_paidAnew 5 (some .int) 1 := ⟨ts_mem 798 (by decide +kernel) rfl, ts_mem 799 (by decide +kernel) rfl, ts_mem 800 (by decide +kernel) rfl, ts_mem 27 (by decide +kernel) rfl, ts_mem 801 (by decide +kernel) rfl, by decide +kernel⟩
theorem M_X7_225 : rb_Vc RX7 225 RX3 yX3_paidBy cX3_paidBy 2 (some .int) 1 := ⟨ts_mem 802 (by decide +kernel) rfl, ts_mem 803 (by decide +kernel) rfl, ts_mem 804 (by decide +kernel) rfl, ts_mem 48 (by decide +kernel) rfl, ts_mem 805 (by decide +kernel) rfl, by decide +kernel⟩
theorem M_L_116 : rb_SWc RL 116 yL_where cL_where 4 (some .int) [(0, 6, 9, 14)] 2 := ⟨ts_mem 806 (by decide +kernel) rfl, ts_mem 807 (by decide +kernel) rfl, ts_mem 26 (by decide +kernel) rfl, ts_mem 808 (by decide +kernel) rfl, by decide +kernel⟩
theorem M_L_58 : rb_Vc RL 58 RX7 yX7_where cX7_where 2 (some .int) 1 := ⟨ts_mem 809 (by decide +kernel) rfl, ts_mem 810 (by decide +kernel) rfl, ts_mem 811 (by decide +kernel) rfl, ts_mem 27 (by decide +kernel) rfl, ts_mem 812 (by decide +kernel) rfl, by decide +kernel⟩
theorem M_L_118 : rb_SWc RL 118 yL_contact cL_contact 5 (some .int) [(0, 7, 10, 14)] 3 := ⟨ts_mem 813 (by decide +kernel) rfl, ts_mem 814 (by decide +kernel) rfl, ts_mem 26 (by decide +kernel) rfl, ts_mem 815 (by decide +kernel) rfl, by decide +kernel⟩
theorem M_L_61 : rb_Vc RL 61 RX7 yX7_contact cX7_contact 4 (some .int) 2 := ⟨ts_mem 816 (by decide +kernel) rfl, ts_mem 817 (by decide +kernel) rfl, ts_mem 818 (by decide +kernel) rfl, ts_mem 27 (by decide +kernel) rfl, ts_mem 819 (by decide +kernel) rfl, by decide +kernel⟩
theorem M_X7_174 : rb_Vc RX7 174 RX2 yX2_latest cX2_latest 2 (some .int) 1 := ⟨ts_mem 820 (by decide +kernel) rfl, ts_mem 629 (by decide +kernel) rfl, ts_mem 630 (by decide +kernel) rfl, ts_mem 32 (by decide +kernel) rfl, ts_mem 631 (by decide +kernel) rfl, by decide +kernel⟩
theorem M_L_120 : rb_SWc RL 120 yL_agrees cL_agrees 4 (some .int) [(0, 6, 9, 14)] 2 := ⟨ts_mem 821 (by decide +kernel) rfl, ts_mem 822 (by decide +kernel) rfl, ts_mem 26 (by decide +kernel) rfl, ts_mem 823 (by decide +kernel) rfl, by decide +kernel⟩
theorem M_L_64 : rb_Vc RL 64 RX7 yX7_agrees cX7_agrees 4 (some .boolean) 1 := ⟨ts_mem 824 (by decide +kernel) rfl, ts_mem 825 (by decide +kernel) rfl, ts_mem 826 (by decide +kernel) rfl, ts_mem 27 (by decide +kernel) rfl, ts_mem 827 (by decide +kernel) rfl, by decide +kernel⟩
theorem M_L_122 : rb_SWc RL 122 yL_emergency cL_emergency 4 (some .int) [(0, 6, 9, 14)] 2 := ⟨ts_mem 828 (by decide +kernel) rfl, ts_mem 829 (by decide +kernel) rfl, ts_mem 26 (by decide +kernel) rfl, ts_mem 830 (by decide +kernel) rfl, by decide +kernel⟩
theorem M_L_55 : rb_Vc RL 55 RX7 yX7_emergency cX7_emergency 5 (some .int) 1 := ⟨ts_mem 831 (by decide +kernel) rfl, ts_mem 832 (by decide +kernel) rfl, ts_mem 833 (by decide +kernel) rfl, ts_mem 27 (by decide +kernel) rfl, ts_mem 834 (by decide +kernel) rfl, by decide +kernel⟩
theorem M_L_127 : rb_SWc RL 127 yL_recorded cL_recorded 6 (some .int) [(0, 9, 12, 14), (0, 9, 18, 16)] 4 := ⟨ts_mem 835 (by decide +kernel) rfl, ts_mem 836 (by decide +kernel) rfl, ts_mem 26 (by decide +kernel) rfl, ts_mem 837 (by decide +kernel) rfl, by decide +kernel⟩
theorem M_L_93 : rb_Vc RL 93 RX7 yX7_recorded cX7_recorded 5 (some .int) 3 := ⟨ts_mem 838 (by decide +kernel) rfl, ts_mem 839 (by decide +kernel) rfl, ts_mem 840 (by decide +kernel) rfl, ts_mem 27 (by decide +kernel) rfl, ts_mem 841 (by decide +kernel) rfl, by decide +kernel⟩
theorem M_X7_260 : rb_Vc RX7 260 RX0 yX0_minutesThatAre cX0_minutesThatAre 5 (some .int) 1 := ⟨ts_mem 842 (by decide +kernel) rfl, ts_mem 714 (by decide +kernel) rfl, ts_mem 715 (by decide +kernel) rfl, ts_mem 34 (by decide +kernel) rfl, ts_mem 716 (by decide +kernel) rfl, by decide +kernel⟩
theorem M_L_130 : rb_Sc RL 130 yL_minutes cL_minutes 7 (some .int) 5 := ⟨ts_mem 843 (by decide +kernel) rfl, ts_mem 844 (by decide +kernel) rfl, ts_mem 26 (by decide +kernel) rfl, ts_mem 845 (by decide +kernel) rfl, by decide +kernel⟩
theorem M_L_134 : rb_SWc RL 134 yL_owes cL_owes 5 (some .int) [(0, 7, 10, 14)] 3 := ⟨ts_mem 846 (by decide +kernel) rfl, ts_mem 847 (by decide +kernel) rfl, ts_mem 26 (by decide +kernel) rfl, ts_mem 848 (by decide +kernel) rfl, by decide +kernel⟩
theorem M_L_87 : rb_Vc RL 87 RX7 yX7_owes cX7_owes 3 (some .int) 2 := ⟨ts_mem 849 (by decide +kernel) rfl, ts_mem 850 (by decide +kernel) rfl, ts_mem 851 (by decide +kernel) rfl, ts_mem 27 (by decide +kernel) rfl, ts_mem 852 (by decide +kernel) rfl, by decide +kernel⟩
theorem M_X7_254 : rb_Vc RX7 254 RX0 yX0_owed cX0_owed 4 (some .int) 0 := ⟨ts_mem 853 (by decide +kernel) rfl, ts_mem 854 (by decide +kernel) rfl, ts_mem 855 (by decide +kernel) rfl, ts_mem 34 (by decide +kernel) rfl, ts_mem 856 (by decide +kernel) rfl, by decide +kernel⟩
theorem M_X0_52 : rb_Vc RX0 52 RX4 yX4_owed cX4_owed 2 (some .int) 1 := ⟨ts_mem 857 (by decide +kernel) rfl, ts_mem 858 (by decide +kernel) rfl, ts_mem 859 (by decide +kernel) rfl, ts_mem 49 (by decide +kernel) rfl, ts_mem 860 (by decide +kernel) rfl, by decide +kernel⟩
theorem M_X4_28 : rb_Vc RX4 28 RX1 yX1_priceAt cX1_priceAt 2 (some .int) 1 := ⟨ts_mem 861 (by decide +kernel) rfl, ts_mem 862 (by decide +kernel) rfl, ts_mem 863 (by decide +kernel) rfl, ts_mem 43 (by decide +kernel) rfl, ts_mem 864 (by decide +kernel) rfl, by decide +kernel⟩
theorem M_L_136 : rb_SWc RL 136 yL_owesAnew cL_owesAnew 5 (some .int) [(0, 7, 10, 14)] 3 := ⟨ts_mem 865 (by decide +kernel) rfl, ts_mem 866 (by decide +kernel) rfl, ts_mem 26 (by decide +kernel) rfl, ts_mem 867 (by decide +kernel) rfl, by decide +kernel⟩
theorem M_L_90 : rb_Vc RL 90 RX7 yX7_owesAnew cX7_owesAnew 3 (some .int) 2 := ⟨ts_mem 868 (by decide +kernel) rfl, ts_mem 869 (by decide +kernel) rfl, ts_mem 870 (by decide +kernel) rfl, ts_mem 27 (by decide +kernel) rfl, ts_mem 871 (by decide +kernel) rfl, by decide +kernel⟩
theorem M_X7_257 : rb_Vc RX7 257 RX0 yX0_owedFileByFile cX0_owedFileByFile 4 (some .int) 0 := ⟨ts_mem 872 (by decide +kernel) rfl, ts_mem 873 (by decide +kernel) rfl, ts_mem 874 (by decide +kernel) rfl, ts_mem 34 (by decide +kernel) rfl, ts_mem 875 (by decide +kernel) rfl, by decide +kernel⟩
theorem M_X0_55 : rb_Vc RX0 55 RX0 yX0_minutesTakenIn cX0_minutesTakenIn 5 (some .int) 1 := ⟨ts_mem 876 (by decide +kernel) rfl, ts_mem 878 (by decide +kernel) rfl, ts_mem 24 (by decide +kernel) rfl, ts_mem 34 (by decide +kernel) rfl, ts_mem 879 (by decide +kernel) rfl, by decide +kernel⟩
theorem M_X0_58 : rb_Vc RX0 58 RX0 yX0_owedIn cX0_owedIn 6 (some .int) 2 := ⟨ts_mem 880 (by decide +kernel) rfl, ts_mem 882 (by decide +kernel) rfl, ts_mem 25 (by decide +kernel) rfl, ts_mem 34 (by decide +kernel) rfl, ts_mem 883 (by decide +kernel) rfl, by decide +kernel⟩
theorem ts_oi : Cond.instanceMethod objectInit ∈ TS := ts_mem 56 (by decide +kernel) rfl
theorem ts_oc : Cond.code objectInit ⟨#[0xb1]⟩ 1 none ∈ TS := ts_mem 57 (by decide +kernel) rfl
theorem NI_X5 : Cond.instanceMethod yX5_init ∈ TS ∧ Cond.initialized yX5_init.cls ∈ TS ∧ Cond.code yX5_init cX5_init 1 none ∈ TS := ⟨ts_mem 91 (by decide +kernel) rfl, ts_mem 31 (by decide +kernel) rfl, ts_mem 92 (by decide +kernel) rfl⟩
theorem NI_X0 : Cond.instanceMethod yX0_init ∈ TS ∧ Cond.initialized yX0_init.cls ∈ TS ∧ Cond.code yX0_init cX0_init 1 none ∈ TS := ⟨ts_mem 136 (by decide +kernel) rfl, ts_mem 34 (by decide +kernel) rfl, ts_mem 137 (by decide +kernel) rfl⟩
theorem N_L_7 : Cond.constant RL 7 (1205587479) ∈ TS := ts_mem 179 (by decide +kernel) rfl
theorem N_X7_94 : Cond.constant RX7 94 (999999) ∈ TS := ts_mem 349 (by decide +kernel) rfl
theorem N_X7_95 : Cond.constant RX7 95 (1000000) ∈ TS := ts_mem 350 (by decide +kernel) rfl
theorem N_J8_200 : Cond.constant RJ8 200 (2147483639) ∈ TS := ts_mem 420 (by decide +kernel) rfl
theorem N_X7_199 : Cond.constant RX7 199 (99999) ∈ TS := ts_mem 611 (by decide +kernel) rfl
theorem N_X7_203 : Cond.constant RX7 203 (36000) ∈ TS := ts_mem 619 (by decide +kernel) rfl
theorem N_X0_51 : Cond.constant RX0 51 (43200) ∈ TS := ts_mem 737 (by decide +kernel) rfl
theorem N_X7_263 : Cond.constant RX7 263 (50000) ∈ TS := ts_mem 745 (by decide +kernel) rfl
theorem N_X7_269 : Cond.constant RX7 269 (43200) ∈ TS := ts_mem 760 (by decide +kernel) rfl
theorem N_L_105 : Cond.constant RL 105 (43200) ∈ TS := ts_mem 777 (by decide +kernel) rfl
theorem N_X6_44 : Cond.constantLong RX6 44 (100) ∈ TS := ts_mem 792 (by decide +kernel) rfl
theorem N_X6_46 : Cond.constantLong RX6 46 (80) ∈ TS := ts_mem 793 (by decide +kernel) rfl
theorem N_L_143 : Cond.constant RL 143 (1073741824) ∈ TS := ts_mem 884 (by decide +kernel) rfl
theorem N_L_149 : Cond.constant RL 149 (1048576) ∈ TS := ts_mem 885 (by decide +kernel) rfl
theorem N_L_150 : Cond.constant RL 150 (2097152) ∈ TS := ts_mem 886 (by decide +kernel) rfl
theorem N_L_151 : Cond.constant RL 151 (900000) ∈ TS := ts_mem 887 (by decide +kernel) rfl
theorem N_L_152 : Cond.constant RL 152 (1000000) ∈ TS := ts_mem 888 (by decide +kernel) rfl
theorem N_L_180 : Cond.constant RL 180 (33554432) ∈ TS := ts_mem 889 (by decide +kernel) rfl
theorem N_L_190 : Cond.constant RL 190 (999999) ∈ TS := ts_mem 890 (by decide +kernel) rfl
theorem ts_arr_int : Cond.arrayClass .int ∈ TS := ts_mem 88 (by decide +kernel) rfl
end
section
theorem pp_s {most : Nat} {c : Char} {cs rest rest' : List Char} {t : FieldType} {ts : List FieldType} (hc : c ≠ ')') (h1 : fieldTypePrefix 0 (c :: cs) = some (t, rest)) (h2 : parametersPrefix most rest = some (ts, rest')) : parametersPrefix (most + 1) (c :: cs) = some (t :: ts, rest') := by
  simp [parametersPrefix, hc, h1, h2]
theorem pp_0 {most : Nat} {rest : List Char} : parametersPrefix most (')' :: rest) = some ([], rest) := by
  simp [parametersPrefix]
theorem pp_told : parametersPrefix 255 "LRoamBooks;I[I[I[I[I[I[I[I[I)Z".toList = some ([.object "RoamBooks", .int, .array .int, .array .int, .array .int, .array .int, .array .int, .array .int, .array .int, .array .int], ['Z']) := by
  rw [show "LRoamBooks;I[I[I[I[I[I[I[I[I)Z".toList = ['L', 'R', 'o', 'a', 'm', 'B', 'o', 'o', 'k', 's', ';', 'I', '[', 'I', '[', 'I', '[', 'I', '[', 'I', '[', 'I', '[', 'I', '[', 'I', '[', 'I', ')', 'Z'] by decide +kernel]
  refine pp_s (by decide) (rest := ['I', '[', 'I', '[', 'I', '[', 'I', '[', 'I', '[', 'I', '[', 'I', '[', 'I', '[', 'I', ')', 'Z']) (by decide +kernel) ?_
  refine pp_s (by decide) (rest := ['[', 'I', '[', 'I', '[', 'I', '[', 'I', '[', 'I', '[', 'I', '[', 'I', '[', 'I', ')', 'Z']) (by decide +kernel) ?_
  refine pp_s (by decide) (rest := ['[', 'I', '[', 'I', '[', 'I', '[', 'I', '[', 'I', '[', 'I', '[', 'I', ')', 'Z']) (by decide +kernel) ?_
  refine pp_s (by decide) (rest := ['[', 'I', '[', 'I', '[', 'I', '[', 'I', '[', 'I', '[', 'I', ')', 'Z']) (by decide +kernel) ?_
  refine pp_s (by decide) (rest := ['[', 'I', '[', 'I', '[', 'I', '[', 'I', '[', 'I', ')', 'Z']) (by decide +kernel) ?_
  refine pp_s (by decide) (rest := ['[', 'I', '[', 'I', '[', 'I', '[', 'I', ')', 'Z']) (by decide +kernel) ?_
  refine pp_s (by decide) (rest := ['[', 'I', '[', 'I', '[', 'I', ')', 'Z']) (by decide +kernel) ?_
  refine pp_s (by decide) (rest := ['[', 'I', '[', 'I', ')', 'Z']) (by decide +kernel) ?_
  refine pp_s (by decide) (rest := ['[', 'I', ')', 'Z']) (by decide +kernel) ?_
  refine pp_s (by decide) (rest := [')', 'Z']) (by decide +kernel) ?_
  exact pp_0
theorem pd_isTold : (parseMethodDescriptor "(LRoamBooks;I[I[I[I[I[I[I[I[I)Z").map (fun d => d.parameters.length) = some 10 := by
  unfold parseMethodDescriptor
  rw [show "(LRoamBooks;I[I[I[I[I[I[I[I[I)Z".toList = '(' :: "LRoamBooks;I[I[I[I[I[I[I[I[I)Z".toList by decide +kernel]
  simp only [pp_told]
  decide +kernel
set_option maxRecDepth 100000 in
set_option maxHeartbeats 4000000 in
theorem w_isTold : lw_tbl[780]? = some (Cond.code yL_isTold cL_isTold 18 (some .boolean)) := by rfl
theorem M_L_193 : rb_Sc RL 193 yL_isTold cL_isTold 18 (some .boolean) 10 := ⟨ts_mem 778 (by decide +kernel) rfl, ts_mem 779 (by decide +kernel) rfl, ts_mem 26 (by decide +kernel) rfl, ts_mem 780 w_isTold rfl, ⟨by decide +kernel, by decide +kernel, pd_isTold⟩⟩
end
