/-! what the Statement gives of the start -/
theorem tb_mem {w : Cond} (i : Nat) (h : lw_tbl[i]? = some w) : w ∈ lw_tbl := List.mem_of_getElem? h
theorem nw_mem {w : Cond} (i : Nat) (h : (flatC (Jvm.Cond.and given_1 narrow_1))[i]? = some w) : w ∈ flatC (Jvm.Cond.and given_1 narrow_1) := List.mem_of_getElem? h
theorem kn_of {own : String} {idx ci N : Nat} (F : rb_Cls own idx ci N) {args : Array Value} {s : State} (hts : ∀ w ∈ TS, w.before args s = true) : ∃ (c : ClassId) (iS : Nat → Nat), ∀ q, vwCl[ci]? = some q → u_Kn s q.1 q.2.1 q.2.2 c iS := by
  obtain ⟨RC, TT, ty0, hcl, hin, hci, hlk, hinst, hini, hty, hdef⟩ := F
  obtain ⟨c, iS, h⟩ := u_known (C := RC) (T := TT) (N := N) (n := N) hts hin (hts _ hinst)
  exact ⟨c, iS, fun q hq => by rw [hcl] at hq; cases hq; exact h⟩
theorem arr_of {args : Array Value} {s : State} {ty : FieldType} (hno : ∀ U c, va_RA U c ty = (U.vm.findClass ("[" ++ ty.toString) = some c)) (h : (Cond.arrayClass ty).before args s = true) : ∃ c, ArrOfT s c ty ∧ va_RA s c ty := by
  obtain ⟨c, k, comp, h1, h2, h3⟩ := Cond.arrayClass_spec h
  exact ⟨c, fun n z => ⟨(fun k h => by cases h), k, h2, comp, h3⟩, by rw [hno]; exact h1⟩
theorem aro_of {args : Array Value} {s : State} {C : String} (h : (Cond.arrayOver (.object C)).before args s = true) : ∃ c, ArrOfT s c (.object C) ∧ va_RA s c (.object C) := by
  obtain ⟨comp, c, k, h1, h2, h3, h4, h5⟩ := Cond.arrayOver_spec h
  exact ⟨c, fun n z => ⟨(fun k h => by cases h), k, h3, comp, h4⟩, k, comp, h3, h4, h1, h5⟩
theorem eq_int9 {args : Array Value} {s : State} {t : Term} {z : Int32} (h : (Cond.eq t (.int z)).before args s = true) : t.eval args s none [] s = some (.int z) := by
  cases hv : t.eval args s none [] s with
  | none => simp [Cond.before, Cond.holds, Cond.value, hv] at h
  | some w =>
    have hz : (Term.int z).eval args s none [] s = some (.int z) := rfl
    simp only [Cond.before, Cond.holds, Cond.value, hv, hz] at h
    cases w <;> simp_all
theorem str_of {args : Array Value} {s : State} {own tx : String} {k : Nat} (h1 : (Cond.stringRef own k tx).before args s = true) (h2 : (Cond.exactly (Term.string own k) "java/lang/String").before args s = true) : ∃ a, vk_R own k tx a s := by
  obtain ⟨a, c, cell, kk, ht, -⟩ := Cond.exactly_spec h2
  exact ⟨a, vk_R.of h1 ht⟩
set_option maxRecDepth 20000 in
set_option maxHeartbeats 4000000 in
theorem K_all {b : Nat} {s : State} {L : Nat} {xs : Nat → Int32} (hL : L ≤ 260) (hX : va_X b L xs s s.heap) (hb : b < s.heap.size) (hts : ∀ w ∈ lw_tbl, w.before #[Value.ref b] s = true) (hgv : (Jvm.Cond.and given_1 narrow_1).before #[Value.ref b] s = true) : ∃ X : rb_X, X.2.2.2.1 = b ∧ rb_K1 X s ∧ rb_K2 X (fun q => s.heap.size ≤ q) s s.heap := by
  have hT : ∀ w ∈ TS, w.before #[Value.ref b] s = true := fun w hw => hts w (List.mem_filter.mp hw).1
  have hn := flat_of_before _ hgv
  obtain ⟨c0, i0, k0⟩ := kn_of K_X7_25 hT
  obtain ⟨c1, i1, k1⟩ := kn_of K_X7_19 hT
  obtain ⟨c2, i2, k2⟩ := kn_of K_X7_99 hT
  obtain ⟨c3, i3, k3⟩ := kn_of K_X5_9 hT
  obtain ⟨c4, i4, k4⟩ := kn_of K_X7_218 hT
  obtain ⟨c5, i5, k5⟩ := kn_of K_X7_323 hT
  obtain ⟨c6, i6, k6⟩ := kn_of K_X7_13 hT
  obtain ⟨c7, i7, k7⟩ := kn_of K_X7_56 hT
  obtain ⟨c8, i8, k8⟩ := kn_of K_L_9 hT
  obtain ⟨aI, aI1, aI2⟩ := arr_of (ty := .int) (fun _ _ => rfl) (hts _ (tb_mem 88 (by decide +kernel)))
  have oO : (Cond.arrayOver (.object "java/lang/Object")).before #[Value.ref b] s = true := hts _ (tb_mem 447 (by decide +kernel))
  have oN : (Cond.arrayOver (.object RX5)).before #[Value.ref b] s = true := hts _ (tb_mem 59 (by decide +kernel))
  have oA : (Cond.arrayOver (.object RX0)).before #[Value.ref b] s = true := hts _ (tb_mem 61 (by decide +kernel))
  obtain ⟨aO, aO1, aO2⟩ := aro_of oO
  obtain ⟨aN, aN1, aN2⟩ := aro_of oN
  obtain ⟨aA, aA1, aA2⟩ := aro_of oA
  have hA : ∀ a : Nat, a < s.heap.size → ¬ (fun q => s.heap.size ≤ q) a := fun a h z => Nat.not_le.mpr h z
  have tE : (Cond.arrayOf (Term.static "java/util/ArrayList" "DEFAULTCAPACITY_EMPTY_ELEMENTDATA" "[Ljava/lang/Object;") (.object "java/lang/Object")).before #[Value.ref b] s = true := hn _ (nw_mem 5 (by decide +kernel))
  have tL : (Cond.eq (Term.length (Term.static "java/util/ArrayList" "DEFAULTCAPACITY_EMPTY_ELEMENTDATA" "[Ljava/lang/Object;")) (Term.int 0)).before #[Value.ref b] s = true := hn _ (nw_mem 7 (by decide +kernel))
  obtain ⟨eE, eE1, eE2⟩ := va_Tof (N := 0) (f := fun _ => .null) (A := fun q => s.heap.size ≤ q) (by decide) tE (eq_int9 tL) (fun j hj => absurd hj (Nat.not_lt_zero _)) hA
  have zE := va_Zof (A := fun q => s.heap.size ≤ q) (C := "java/util/ArrayList") (n := "DEFAULTCAPACITY_EMPTY_ELEMENTDATA") (d := "[Ljava/lang/Object;") (hts _ (tb_mem 75 (by decide +kernel))) (hts _ (tb_mem 30 (by decide +kernel))) eE1 hA
  obtain ⟨mi, hmi⟩ := va_Mi.of (C := "[Ljava/lang/Object;") (hn _ (nw_mem 69 (by decide +kernel)))
  have z1 := vx_Zqof (A := fun q => s.heap.size ≤ q) (C := Bundle.tN) (n := "UNASSIGNED_STACK") (d := Bundle.steD) (hts _ (tb_mem 227 (by decide +kernel))) (hts _ (tb_mem 35 (by decide +kernel))) (hn _ (nw_mem 8 (by decide +kernel))) hA
  have z2 := vx_Zqof (A := fun q => s.heap.size ≤ q) (C := Bundle.tN) (n := "SUPPRESSED_SENTINEL") (d := Bundle.listD) (hts _ (tb_mem 229 (by decide +kernel))) (hts _ (tb_mem 35 (by decide +kernel))) (hn _ (nw_mem 9 (by decide +kernel))) hA
  have s281 := str_of (own := RX7) (k := 281) (tx := "no such place") (hts _ (tb_mem 241 (by decide +kernel))) (hn _ (nw_mem 70 (by decide +kernel)))
  have s273 := str_of (own := RX7) (k := 273) (tx := "an argument is out of range") (hts _ (tb_mem 280 (by decide +kernel))) (hn _ (nw_mem 87 (by decide +kernel)))
  have s279 := str_of (own := RX7) (k := 279) (tx := "no such network") (hts _ (tb_mem 328 (by decide +kernel))) (hn _ (nw_mem 119 (by decide +kernel)))
  have s275 := str_of (own := RX7) (k := 275) (tx := "both are the same") (hts _ (tb_mem 348 (by decide +kernel))) (hn _ (nw_mem 140 (by decide +kernel)))
  have s277 := str_of (own := RX7) (k := 277) (tx := "there are as many as there may be") (hts _ (tb_mem 363 (by decide +kernel))) (hn _ (nw_mem 164 (by decide +kernel)))
  have s283 := str_of (own := RX7) (k := 283) (tx := "no such subscriber") (hts _ (tb_mem 555 (by decide +kernel))) (hn _ (nw_mem 205 (by decide +kernel)))
  have s147 := str_of (own := RX7) (k := 147) (tx := "it is attached to that network") (hts _ (tb_mem 570 (by decide +kernel))) (hn _ (nw_mem 232 (by decide +kernel)))
  have s196 := str_of (own := RX7) (k := 196) (tx := "what is out of range") (hts _ (tb_mem 794 (by decide +kernel))) (hn _ (nw_mem 368 (by decide +kernel)))
  have s235 := str_of (own := RX7) (k := 235) (tx := "no records are left to file") (hts _ (tb_mem 720 (by decide +kernel))) (hn _ (nw_mem 272 (by decide +kernel)))
  have s245 := str_of (own := RX7) (k := 245) (tx := "no such file") (hts _ (tb_mem 732 (by decide +kernel))) (hn _ (nw_mem 310 (by decide +kernel)))
  have s264 := str_of (own := RX7) (k := 264) (tx := "time ends before that") (hts _ (tb_mem 746 (by decide +kernel))) (hn _ (nw_mem 334 (by decide +kernel)))
  refine ⟨((fun k => if k = 0 then c0 else if k = 1 then c1 else if k = 2 then c2 else if k = 3 then c3 else if k = 4 then c4 else if k = 5 then c5 else if k = 6 then c6 else if k = 7 then c7 else c8, fun k => if k = 0 then i0 else if k = 1 then i1 else if k = 2 then i2 else if k = 3 then i3 else if k = 4 then i4 else if k = 5 then i5 else if k = 6 then i6 else if k = 7 then i7 else i8), fun k => if k = 10 then aI else if k = 13 then aO else if k = 14 then aN else aA, eE, b, mi), rfl, ⟨⟨fun c q hq => ?_, fun k q hq => ?_⟩, fun C hC => ?_, fun q hq => ?_, fun q hq => ?_, fun q hq => ?_, ?_, ?_, hmi, va_Dc.of (hts _ (tb_mem 908 (by decide +kernel))), fun y hy => ?_⟩, z1, z2, zE, eE2, L, xs, hL, hX, hb, hA b hb⟩
  · have hc : c < 9 := (List.getElem?_eq_some_iff.mp hq).1
    rcases (by omega : c = 0 ∨ c = 1 ∨ c = 2 ∨ c = 3 ∨ c = 4 ∨ c = 5 ∨ c = 6 ∨ c = 7 ∨ c = 8) with rfl | rfl | rfl | rfl | rfl | rfl | rfl | rfl | rfl
    · exact k0 q hq
    · exact k1 q hq
    · exact k2 q hq
    · exact k3 q hq
    · exact k4 q hq
    · exact k5 q hq
    · exact k6 q hq
    · exact k7 q hq
    · exact k8 q hq
  · have hk : k < 4 := (List.getElem?_eq_some_iff.mp hq).1
    rcases (by omega : k = 0 ∨ k = 1 ∨ k = 2 ∨ k = 3) with rfl | rfl | rfl | rfl
    · cases hq; exact ⟨aI1, aI2⟩
    · cases hq; exact ⟨aO1, aO2⟩
    · cases hq; exact ⟨aN1, aN2⟩
    · cases hq; exact ⟨aA1, aA2⟩
  · simp only [List.mem_cons, List.not_mem_nil, or_false] at hC
    rcases hC with rfl | rfl | rfl
    · exact oO
    · exact oN
    · exact oA
  · simp only [rb_cst, List.mem_cons, List.not_mem_nil, or_false] at hq
    rcases hq with rfl | rfl | rfl | rfl | rfl | rfl | rfl
    · exact va_Nw.of rfl (hts _ (tb_mem 900 (by decide +kernel)))
    · exact va_Nw.of rfl (hts _ (tb_mem 901 (by decide +kernel)))
    · exact va_Nw.of rfl (hts _ (tb_mem 902 (by decide +kernel)))
    · exact va_Nw.of rfl (hts _ (tb_mem 903 (by decide +kernel)))
    · exact va_Nw.of rfl (hts _ (tb_mem 202 (by decide +kernel)))
    · exact va_Nw.of rfl (hts _ (tb_mem 273 (by decide +kernel)))
    · exact va_Nw.of rfl (hts _ (tb_mem 356 (by decide +kernel)))
  · simp only [rb_ncs, List.mem_cons, List.not_mem_nil, or_false] at hq
    rcases hq with rfl | rfl | rfl
    · exact va_Nc.of (hn _ (nw_mem 15 (by decide +kernel)))
    · exact va_Nc.of (hn _ (nw_mem 16 (by decide +kernel)))
    · exact va_Nc.of (hn _ (nw_mem 27 (by decide +kernel)))
  · simp only [rb_strs, List.mem_cons, List.not_mem_nil, or_false] at hq
    rcases hq with rfl | rfl | rfl | rfl | rfl | rfl | rfl | rfl | rfl | rfl | rfl
    · exact s281
    · exact s273
    · exact s279
    · exact s275
    · exact s277
    · exact s283
    · exact s147
    · exact s196
    · exact s235
    · exact s245
    · exact s264
  · exact va_Nw.of rfl (hts _ (tb_mem 90 (by decide +kernel)))
  · exact va_Nw.of rfl (hts _ (tb_mem 135 (by decide +kernel)))
  · simp only [rb_dcl, List.mem_cons, List.not_mem_nil, or_false] at hy
    rcases hy with rfl | rfl | rfl
    · exact va_Nw.of rfl (hts _ (tb_mem 204 (by decide +kernel)))
    · exact va_Nw.of rfl (hts _ (tb_mem 206 (by decide +kernel)))
    · exact va_Nw.of rfl (hts _ (tb_mem 208 (by decide +kernel)))
