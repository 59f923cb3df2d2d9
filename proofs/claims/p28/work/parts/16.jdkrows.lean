/-! rows that the JDK's methods want -/
theorem Thr_io : rb_Thr 243 247 "java/lang/IndexOutOfBoundsException" := ⟨L_X7_243, ts_mem 38 (by decide +kernel) rfl, by decide +kernel, fun w hw => List.mem_filter.mpr ⟨(show ∀ w ∈ (vx_atS RX7 247 "java/lang/IndexOutOfBoundsException" rb_sup).filter goodWord, w ∈ lw_tbl by decide +kernel) w hw, (List.mem_filter.mp hw).2⟩, by decide +kernel, by decide +kernel, by decide +kernel⟩
theorem Thr_ia : rb_Thr 194 198 "java/lang/IllegalArgumentException" := ⟨L_X7_194, ts_mem 39 (by decide +kernel) rfl, by decide +kernel, fun w hw => List.mem_filter.mpr ⟨(show ∀ w ∈ (vx_atS RX7 198 "java/lang/IllegalArgumentException" rb_sup).filter goodWord, w ∈ lw_tbl by decide +kernel) w hw, (List.mem_filter.mp hw).2⟩, by decide +kernel, by decide +kernel, by decide +kernel⟩
theorem Thr_is : rb_Thr 145 149 "java/lang/IllegalStateException" := ⟨L_X7_145, ts_mem 42 (by decide +kernel) rfl, by decide +kernel, fun w hw => List.mem_filter.mpr ⟨(show ∀ w ∈ (vx_atS RX7 149 "java/lang/IllegalStateException" rb_sup).filter goodWord, w ∈ lw_tbl by decide +kernel) w hw, (List.mem_filter.mp hw).2⟩, by decide +kernel, by decide +kernel, by decide +kernel⟩
/-- a whole row of references -/
def sQ (G : rb_G) (r : rb_R) (f : Nat → Option rb_R) : rb_G := (gD G, gN G, gI G, fun x k => if x = r then f k else gP G x k, gJ G)
section
variable {Φ : rb_F} {own : String} {cc : ByteArray} {nL fr lo mc ms cells slots pc : Nat} {Lv Lv' : List (Option rb_V)} {st rest As : List rb_V} {G : rb_G}
theorem rb_e_sQ {ad : rb_R → Nat} {cA : Nat → ClassId} {G : rb_G} {r : rb_R} {f : Nat → Option rb_R} {r' : rb_R} (h : r' ≠ r) : rb_e ad cA (sQ G r f) r' = rb_e ad cA G r' := by
  have e : gP (sQ G r f) r' = gP G r' := by funext j; show (if r' = r then f j else gP G r' j) = _; rw [if_neg h]
  unfold rb_e
  rw [e]
  rfl
theorem rb_acmp_ne (C : rb_C Φ own cc nL fr lo mc ms) {r r' : rb_R} {off : Int} (hd : decode cc pc = .ok (.if_acmp .ne off, 3)) {tgt : Nat} (ht : (pc : Int) + off = (tgt : Int)) (h : r = r') (kk : rb_W Φ cells slots (pc + 3) Lv st G) : rb_W Φ cells slots pc Lv (rbR r' :: rbR r :: st) G := by
  subst h
  obtain ⟨p, l, e, R, s, m, args, below, meth, c, Q, X, A, ad0, G0⟩ := Φ
  intro ad H locs ls hP hn hS hl ho hv
  exact lv_acmp_ne (rx := some (ad r)) (ry := some (ad r)) C.1 C.2.1 hd ht (fun q => absurd rfl q) (fun _ => kk ad H locs ls hP hn hS hl ho.tl.tl hv)
theorem rb_acmp_eqY (C : rb_C Φ own cc nL fr lo mc ms) {r r' : rb_R} {off : Int} (tgt : Nat) (hd : decode cc pc = .ok (.if_acmp .eq off, 3)) (ht : (pc : Int) + off = (tgt : Int)) (h : r = r') (kk : rb_W Φ cells slots tgt Lv st G) : rb_W Φ cells slots pc Lv (rbR r' :: rbR r :: st) G := by
  subst h
  obtain ⟨p, l, e, R, s, m, args, below, meth, c, Q, X, A, ad0, G0⟩ := Φ
  intro ad H locs ls hP hn hS hl ho hv
  exact lv_acmp_eq (rx := some (ad r)) (ry := some (ad r)) C.1 C.2.1 hd ht (fun _ => kk ad H locs ls hP hn hS hl ho.tl.tl hv) (fun q => absurd rfl q)
theorem rb_ldcM (C : rb_C Φ own cc nL fr lo mc ms) {idx : Nat} (hw : Cond.classLink own idx "[Ljava/lang/Object;" ∈ TS) (hd : decode cc pc = .ok (.ldc idx, 2)) (hD : gD G (21, 0, 0)) (kk : rb_W Φ cells slots (pc + 2) Lv (rbR (21, 0, 0) :: st) G) : rb_W Φ cells slots pc Lv st G := by
  obtain ⟨p, l, e, R, s, m, args, below, meth, c, Q, X, A, ad0, G0⟩ := Φ
  intro ad H locs ls hP hn hS hl ho hv
  have h := kk ad H locs ls hP hn hS hl (ho.cons (rb_ok_r hD)) hv
  have e1 : (rbR (21, 0, 0) :: st).map (rb_c ad) = Value.ref X.2.2.2.2 :: st.map (rb_c ad) := by
    show Value.ref (ad (21, 0, 0)) :: _ = _
    rw [hP.2.2.2.2.2]
  rw [e1] at h
  exact va_ldcM C.1 C.2.1 C.2.2.2.1 (C.2.2.2.2.1 _ hw) C.2.2.2.2.2.2.2.2.1.2.2.2.2.2.2.2.1 hd h
theorem rb_getC (C : rb_C Φ own cc nL fr lo mc ms) {r : rb_R} {idx : Nat} (hw : Cond.methodLink own idx ⟨"java/lang/Object", "getClass", "()Ljava/lang/Class;"⟩ ∈ TS) (hw2 : Cond.selects "[Ljava/lang/Object;" ⟨"java/lang/Object", "getClass", "()Ljava/lang/Class;"⟩ ⟨"java/lang/Object", "getClass", "()Ljava/lang/Class;"⟩ ∈ TS)
    (hw3 : Cond.instanceMethod ⟨"java/lang/Object", "getClass", "()Ljava/lang/Class;"⟩ ∈ TS) (hw4 : Cond.native ⟨"java/lang/Object", "getClass", "()Ljava/lang/Class;"⟩ ∈ TS) (hd : decode cc pc = .ok (.invokevirtual idx, 3)) (hk : rb_k r.1 = 13) (hD : gD G (21, 0, 0)) (hlen : Lv.length = nL) (hfr : 1 ≤ fr) (hcat : (st.map rb_cat).sum + 14 ≤ lo) (kk : rb_W Φ cells slots (pc + 3) Lv (rbR (21, 0, 0) :: st) G) : rb_W Φ cells slots pc Lv (rbR r :: st) G := by
  obtain ⟨p, l, e, R, s, m, args, below, meth, c, Q, X, A, ad0, G0⟩ := Φ
  intro ad H locs ls hP hn hS hl ho hv
  have hR := C.2.2.2.2.2.2.1
  subst hR
  have hK1 := C.2.2.2.2.2.2.2.2.1
  have h := kk ad H locs ls hP hn hS hl (ho.tl.cons (rb_ok_r hD)) hv
  have e1 : (rbR (21, 0, 0) :: st).map (rb_c ad) = Value.ref X.2.2.2.2 :: st.map (rb_c ad) := by
    show Value.ref (ad (21, 0, 0)) :: _ = _
    rw [hP.2.2.2.2.2]
  rw [e1] at h
  obtain ⟨-, hat⟩ := hP.1 r (ho.hd r rfl) (by rw [hk]; decide)
  rw [rb_eP hk (by decide)] at hat
  refine va_getC C.1 C.2.1 (by rw [C.2.2.1, hl.1, hlen]) C.2.2.2.1 (C.2.2.2.2.1 _ hw) hK1.2.2.2.2.2.2.2.2.1.use (C.2.2.2.2.1 _ hw2) (C.2.2.2.2.1 _ hw3) (C.2.2.2.2.1 _ hw4) hK1.2.2.2.2.2.2.2.1 ⟨_, hat, rfl, va_nmO (hK1.1.2 1 _ rfl).2 (by decide +kernel)⟩ hfr ?_ hd h
  show ((st.map (rb_c ad)).map fun v => v.category).sum + 14 ≤ lo
  rw [List.map_map, show ((fun v => Value.category v) ∘ rb_c ad) = rb_cat from funext fun v => rb_cat_c ad v]
  exact hcat
/-- an object of class ci may lie in a row of Object -/
theorem rb_asg {X : rb_X} {s : State} (hK1 : rb_K1 X s) {ci : Nat} {r' : vw_C} (hr' : vwCl[ci]? = some r') (hf : ci = 2 ∨ ci = 7 ∨ ci = 4 ∨ ci = 5) {comp : ClassId} (k3 : s.vm.findClass "java/lang/Object" = some comp) : s.vm.assignable (X.1.1 ci) comp = true := by
  have hcls := (hK1.1.1 ci r' hr').2
  have cst : ∀ nm : String, (nm, "java/lang/Object") ∈ rb_cst → s.vm.findClass nm = some (X.1.1 ci) → s.vm.assignable (X.1.1 ci) comp = true := by
    intro nm hm f1
    obtain ⟨c0, t0, e1, e2, e3⟩ := Cond.castable_spec (va_Nw.use (A := #[]) rfl (hK1.2.2.1 _ hm))
    cases Option.some.inj (e1.symm.trans f1)
    cases Option.some.inj (e2.symm.trans k3)
    exact e3
  rcases hf with rfl | rfl | rfl | rfl
  · cases Option.some.inj (hr'.symm.trans (rfl : vwCl[2]? = some (RX1, TX1, 7)))
    exact cst RX1 (by decide +kernel) hcls.1
  · cases Option.some.inj (hr'.symm.trans (rfl : vwCl[7]? = some (RX6, TX6, 11)))
    exact cst RX6 (by decide +kernel) hcls.1
  · cases Option.some.inj (hr'.symm.trans (rfl : vwCl[4]? = some (RX3, TX3, 4)))
    exact cst RX3 (by decide +kernel) hcls.1
  · cases Option.some.inj (hr'.symm.trans (rfl : vwCl[5]? = some (RX4, TX4, 5)))
    exact cst RX4 (by decide +kernel) hcls.1
/-- System.arraycopy from the first of two rows of Object, from place 0 to place 0 -/
theorem rb_copyq (C : rb_C Φ own cc nL fr lo mc ms) {r0 r1 : rb_R} {n : Int32} {idx N : Nat} (w1 : Cond.methodLink own idx arraycopyName ∈ TS) (w2 : Cond.native arraycopyName ∈ TS) (w3 : Cond.static arraycopyName ∈ TS) (w4 : Cond.initialized "java/lang/System" ∈ TS) (hd : decode cc pc = .ok (.invokestatic idx, 3)) (hk0 : rb_k r0.1 = 13) (hk1 : rb_k r1.1 = 13)
    (h3 : ¬ n < 0) (hN : n.toNatClampNeg = N) (h4 : N ≤ gN G r0) (h5 : N ≤ gN G r1) (hel : ∀ i, i < N → ∀ y, gP G r0 i = some y → rb_k y.1 = 2 ∨ rb_k y.1 = 7 ∨ rb_k y.1 = 4 ∨ rb_k y.1 = 5) (hlen : Lv.length = nL) (hfr : 1 ≤ fr) (hcat : (st.map rb_cat).sum + 18 ≤ lo)
    (kk : rb_W Φ cells slots (pc + 3) Lv st (sQ G r1 (fun j => if j < N then gP G r0 j else gP G r1 j))) : rb_W Φ cells slots pc Lv (rbI n :: rbI 0 :: rbR r1 :: rbI 0 :: rbR r0 :: st) G := by
  obtain ⟨p, l, e, R, s, m, args, below, meth, c, Q, X, A, ad0, G0⟩ := Φ
  intro ad H locs ls hP hn hS hl ho hv T hT XS
  have hR := C.2.2.2.2.2.2.1
  subst hR
  subst hN
  have hK1 := C.2.2.2.2.2.2.2.2.1
  have nn : n.toInt = (n.toNatClampNeg : Int) := by
    have hz0 : (0 : Int) ≤ n.toInt := by
      have := Int32.not_lt.mp h3
      simpa using Int32.le_iff_toInt_le.mp this
    show n.toInt = ((n.toInt.toNat : Nat) : Int)
    omega
  have hr1 : gD G r1 := ho.tl.tl.hd r1 rfl
  have hr0 : gD G r0 := ho.tl.tl.tl.tl.hd r0 rfl
  have hk120 : rb_k r1.1 < 20 := by rw [hk1]; decide
  obtain ⟨-, hat0⟩ := hP.1 r0 hr0 (by rw [hk0]; decide)
  obtain ⟨hA1, hat1⟩ := hP.1 r1 hr1 hk120
  rw [rb_eP hk0 (by decide)] at hat0
  rw [rb_eP hk1 (by decide)] at hat1
  have hc0 : H[ad r0]? = some (vp_cell (X.2.1 13) (gN G r0, .inr (.inr (.inr (.inr (fun j => (gP G r0 j).map ad)))))) := hat0
  have hc1 : H[ad r1]? = some (vp_cell (X.2.1 13) (gN G r1, .inr (.inr (.inr (.inr (fun j => (gP G r1 j).map ad)))))) := hat1
  obtain ⟨-, k0, hk0', cm0, hkk0⟩ := (hK1.1.2 1 _ rfl).1 (gN G r0) (fun j => va_rf ((gP G r0 j).map ad))
  obtain ⟨-, k1, hk1', cm1, hkk1⟩ := (hK1.1.2 1 _ rfl).1 (gN G r1) (fun j => va_rf ((gP G r1 j).map ad))
  obtain ⟨vm', X', step⟩ := XS.arraycopy C.1 C.2.2.2.1 (C.2.2.2.2.1 _ w1) (C.2.2.2.2.1 _ w2) (C.2.2.2.2.1 _ w3) (C.2.2.2.2.1 _ w4) (src := ad r0) (dst := ad r1) (cs := vp_cell (X.2.1 13) (gN G r0, .inr (.inr (.inr (.inr (fun j => (gP G r0 j).map ad)))))) (cd := vp_cell (X.2.1 13) (gN G r1, .inr (.inr (.inr (.inr (fun j => (gP G r1 j).map ad)))))) (srcPos := 0) (destPos := 0) (n := n) (by rw [hT]; exact hc0) (by rw [hT]; exact hc1)
    (fun _ h => by cases h) (fun _ h => by cases h) (fun h => by cases h) (fun h => by cases h) hk0' hk1' hkk0 hkk1 rfl (by decide) (by decide) h3
    (by rw [nn]; show ¬ (0 : Int32).toInt + _ > ((arrV (X.2.1 13) (gN G r0) (fun j => va_rf ((gP G r0 j).map ad))).slots.size : Int); rw [arrV_size, show (0 : Int32).toInt = 0 from rfl]; omega)
    (by rw [nn]; show ¬ (0 : Int32).toInt + _ > ((arrV (X.2.1 13) (gN G r1) (fun j => va_rf ((gP G r1 j).map ad))).slots.size : Int); rw [arrV_size, show (0 : Int32).toInt = 0 from rfl]; omega)
    (fun vm₁ hal i hi => by
      have e : (vp_cell (X.2.1 13) (gN G r0, .inr (.inr (.inr (.inr (fun j => (gP G r0 j).map ad)))))).slots.getD ((0 : Int32).toNatClampNeg + i) .null = va_rf ((gP G r0 i).map ad) := by
        show (arrV (X.2.1 13) (gN G r0) (fun j => va_rf ((gP G r0 j).map ad))).slots.getD _ _ = _
        rw [show (0 : Int32).toNatClampNeg = 0 from rfl, Nat.zero_add, Array.getD_eq_getD_getElem?, arrV_read _ _ (by omega)]
        rfl
      rw [e]
      cases hy : gP G r0 i with
      | none => exact ⟨rfl, trivial⟩
      | some y =>
        have hyk := hel i hi y hy
        have hyD := hP.2.2.1 r0 i y hr0 hy
        obtain ⟨-, haty⟩ := hP.1 y hyD (by omega)
        rw [rb_eo (ci := rb_k y.1) rfl (by omega)] at haty
        obtain ⟨r', hr', cellV, g1, g2, g3, -⟩ := haty
        obtain ⟨kA, comp, r1', r2', r3', -⟩ := (hK1.1.2 1 _ rfl).2
        cases hk1'.symm.trans r1'
        cases hkk1.symm.trans r2'
        have hcls := (hK1.1.1 _ r' hr').2
        obtain ⟨kC, hkC, -⟩ := hcls.2
        obtain ⟨kE, hkE, -⟩ := Vm.findClass_spec r3'
        obtain ⟨kC', hkC', -⟩ := hal.2.2 _ _ hkC
        obtain ⟨kE', hkE', -⟩ := hal.2.2 _ _ hkE
        refine ⟨rfl, cellV, (show T.heap[ad y]? = some cellV by rw [hT]; exact g1), (fun q h => by rw [g3] at h; cases h), ⟨kC', by rw [g2]; exact hkC'⟩, ?_, ?_⟩
        · exact ⟨kE', hkE'⟩
        · show vm₁.assignable _ _ = true
          rw [hal.assignable, g2]
          exact rb_asg hK1 hr' hyk r3')
    (g := F0 m pc ls ((rbI n :: rbI 0 :: rbR r1 :: rbI 0 :: rbR r0 :: st).map (rb_c ad))) rfl (by show ls.size = _; rw [C.2.2.1, hl.1, hlen]) (rest := st.map (rb_c ad)) rfl (by rw [C.2.1]; exact hd) hfr (by
      show 2 * 0 + ((st.map (rb_c ad)).map fun v => v.category).sum + (nativeFrameWords "java/lang/System" "arraycopy" 5 + 11) ≤ lo
      rw [List.map_map, show ((fun v => Value.category v) ∘ rb_c ad) = rb_cat from funext fun v => rb_cat_c ad v, show nativeFrameWords "java/lang/System" "arraycopy" 5 = 7 from by decide]
      omega)
  have e1 : copied (vp_cell (X.2.1 13) (gN G r0, .inr (.inr (.inr (.inr (fun j => (gP G r0 j).map ad)))))) (vp_cell (X.2.1 13) (gN G r1, .inr (.inr (.inr (.inr (fun j => (gP G r1 j).map ad)))))) 0 0 n = vp_cell (X.2.1 13) (gN G r1, .inr (.inr (.inr (.inr (fun j => (if j < n.toNatClampNeg then gP G r0 j else gP G r1 j).map ad))))) := by
    rw [vp_cell_q, vp_cell_q, vp_cell_q]
    refine (va_copied (fun z => va_rf z) (X.2.1 13) (X.2.1 13) (fun j => (gP G r0 j).map ad) (fun j => (gP G r1 j).map ad) (sp := 0) (dp := 0) (n := n.toNatClampNeg) (by omega)).trans ?_
    congr 1
    funext j
    simp only [va_cpy, Nat.zero_add, Nat.zero_le, true_and, Nat.sub_zero]
    by_cases hj : j < n.toNatClampNeg
    · rw [if_pos hj, if_pos hj]
    · rw [if_neg hj, if_neg hj]
  rw [e1] at X' step
  have hl9 : ad r1 < H.size := (Array.getElem?_eq_some_iff.mp hc1).1
  generalize hcell : vp_cell (X.2.1 13) (gN G r1, .inr (.inr (.inr (.inr (fun j => (if j < n.toNatClampNeg then gP G r0 j else gP G r1 j).map ad))))) = cellN at X' step
  have hheap : ((T.setVm vm').setCell (ad r1) cellN).heap = H.setIfInBounds (ad r1) cellN := by rw [← hT]; rfl
  have oq : ∀ q : Nat, q ≠ ad r1 → (H.setIfInBounds (ad r1) cellN)[q]? = H[q]? := fun q hq => by simp [Array.getElem?_setIfInBounds, Ne.symm hq]
  have hat2 : va_at X.1 vwCl (ad r1, rb_e ad X.2.1 (sQ G r1 (fun j => if j < n.toNatClampNeg then gP G r0 j else gP G r1 j)) r1) (H.setIfInBounds (ad r1) cellN) := by
    rw [rb_eP hk1 (by decide)]
    show (H.setIfInBounds (ad r1) cellN)[ad r1]? = some (vp_cell _ _)
    have e2 : (fun j => (gP (sQ G r1 (fun j => if j < n.toNatClampNeg then gP G r0 j else gP G r1 j)) r1 j).map ad) = fun j => (if j < n.toNatClampNeg then gP G r0 j else gP G r1 j).map ad := by
      funext j
      show Option.map ad (if r1 = r1 then _ else _) = _
      rw [if_pos rfl]
    rw [e2, show gN (sQ G r1 (fun j => if j < n.toNatClampNeg then gP G r0 j else gP G r1 j)) r1 = gN G r1 from rfl, hcell]
    simp [Array.getElem?_setIfInBounds, hl9]
  have hP2 : rb_P X ad A (sQ G r1 (fun j => if j < n.toNatClampNeg then gP G r0 j else gP G r1 j)) (H.setIfInBounds (ad r1) cellN) := by
    refine hP.upd hr1 hk120 hat2 oq rfl (fun r' h => rb_e_sQ h) (fun ra k rb ha hb => ?_)
    have hb' : (if ra = r1 then (if k < n.toNatClampNeg then gP G r0 k else gP G r1 k) else gP G ra k) = some rb := hb
    split at hb'
    · split at hb'
      · exact hP.2.2.1 r0 k rb hr0 hb'
      · exact hP.2.2.1 r1 k rb hr1 hb'
    · exact hP.2.2.1 ra k rb ha hb'
  obtain ⟨t, a1, b1⟩ := kk ad _ _ ls hP2 hn ⟨by simp; exact hS.1, fun q g1 g2 => by
      rw [oq q (fun e => g2 (by rw [e]; exact hA1))]
      exact hS.2.1 q g1 g2, fun q hq => by
      rcases List.mem_append.mp hq with h | h
      · exact hS.2.2 q h
      · obtain ⟨z, -, hz⟩ := List.mem_map.mp h
        rw [← hz]
        exact hA1⟩ hl ho.tl.tl.tl.tl.tl hv _ hheap X'
  exact ⟨t, step t a1, b1⟩
theorem rb_mmin (C : rb_C Φ own cc nL fr lo mc ms) {idx : Nat} {x y : Int32} (hw : Cond.methodLink own idx Lib.Math.min.name ∈ TS) (hd : decode cc pc = .ok (.invokestatic idx, 3)) (hlen : Lv.length = nL) (hfr : 1 ≤ fr) (hcat : (st.map rb_cat).sum + 13 ≤ lo) (hc : cells ≤ mc) (hs : slots ≤ ms) (kk : rb_W Φ cells slots (pc + 3) Lv (rbI (if y < x then y else x) :: st) G) : rb_W Φ cells slots pc Lv (rbI y :: rbI x :: st) G := by
  obtain ⟨p, l, e, R, s, m, args, below, meth, c, Q, X, A, ad0, G0⟩ := Φ
  intro ad H locs ls hP hn hS hl ho hv
  have hR := C.2.2.2.2.2.2.1
  subst hR
  have w2 : Cond.static Lib.Math.min.name ∈ TS := ts_mem 450 (by decide +kernel) rfl
  have w3 : Cond.initialized "java/lang/Math" ∈ TS := ts_mem 45 (by decide +kernel) rfl
  have w4 : Cond.code Lib.Math.min.name Lib.Math.min.code 2 (some .int) ∈ TS := ts_mem 451 (by decide +kernel) rfl
  refine va_mmin C.1 C.2.1 (by rw [C.2.2.1, hl.1, hlen]) C.2.2.2.1 (C.2.2.2.2.1 _ hw) (C.2.2.2.2.1 _ w2) (C.2.2.2.2.1 _ w3) (C.2.2.2.2.1 _ w4) hfr ?_ hc hs hd (kk ad H locs ls hP hn hS hl (ho.tl.tl.cons (rb_ok_i _ _)) hv)
  show ((st.map (rb_c ad)).map fun v => v.category).sum + 13 ≤ lo
  rw [List.map_map, show ((fun v => Value.category v) ∘ rb_c ad) = rb_cat from funext fun v => rb_cat_c ad v]
  exact hcat
theorem rb_mmax (C : rb_C Φ own cc nL fr lo mc ms) {idx : Nat} {x y : Int32} (hw : Cond.methodLink own idx Lib.Math.max.name ∈ TS) (hd : decode cc pc = .ok (.invokestatic idx, 3)) (hlen : Lv.length = nL) (hfr : 1 ≤ fr) (hcat : (st.map rb_cat).sum + 13 ≤ lo) (hc : cells ≤ mc) (hs : slots ≤ ms) (kk : rb_W Φ cells slots (pc + 3) Lv (rbI (if x < y then y else x) :: st) G) : rb_W Φ cells slots pc Lv (rbI y :: rbI x :: st) G := by
  obtain ⟨p, l, e, R, s, m, args, below, meth, c, Q, X, A, ad0, G0⟩ := Φ
  intro ad H locs ls hP hn hS hl ho hv
  have hR := C.2.2.2.2.2.2.1
  subst hR
  have w2 : Cond.static Lib.Math.max.name ∈ TS := ts_mem 418 (by decide +kernel) rfl
  have w3 : Cond.initialized "java/lang/Math" ∈ TS := ts_mem 45 (by decide +kernel) rfl
  have w4 : Cond.code Lib.Math.max.name Lib.Math.max.code 2 (some .int) ∈ TS := ts_mem 419 (by decide +kernel) rfl
  refine va_mmax C.1 C.2.1 (by rw [C.2.2.1, hl.1, hlen]) C.2.2.2.1 (C.2.2.2.2.1 _ hw) (C.2.2.2.2.1 _ w2) (C.2.2.2.2.1 _ w3) (C.2.2.2.2.1 _ w4) hfr ?_ hc hs hd (kk ad H locs ls hP hn hS hl (ho.tl.tl.cons (rb_ok_i _ _)) hv)
  show ((st.map (rb_c ad)).map fun v => v.category).sum + 13 ≤ lo
  rw [List.map_map, show ((fun v => Value.category v) ∘ rb_c ad) = rb_cat from funext fun v => rb_cat_c ad v]
  exact hcat
end
theorem MM_J8_194 : Cond.methodLink RJ8 194 Lib.Math.max.name ∈ TS := ts_mem 417 (by decide +kernel) rfl
theorem MM_J7_304 : Cond.methodLink RJ7 304 Lib.Math.min.name ∈ TS := ts_mem 449 (by decide +kernel) rfl
theorem MM_Jx4a65c_79 : Cond.methodLink RJx4a65c 79 Lib.Math.max.name ∈ TS := ts_mem 455 (by decide +kernel) rfl
theorem MM_X7_305 : Cond.methodLink RX7 305 Lib.Math.min.name ∈ TS := ts_mem 751 (by decide +kernel) rfl
theorem GC_1 : Cond.methodLink RJ7 86 ⟨"java/lang/Object", "getClass", "()Ljava/lang/Class;"⟩ ∈ TS := ts_mem 427 (by decide +kernel) rfl
theorem GC_2 : Cond.selects "[Ljava/lang/Object;" ⟨"java/lang/Object", "getClass", "()Ljava/lang/Class;"⟩ ⟨"java/lang/Object", "getClass", "()Ljava/lang/Class;"⟩ ∈ TS := ts_mem 907 (by decide +kernel) rfl
theorem GC_3 : Cond.instanceMethod ⟨"java/lang/Object", "getClass", "()Ljava/lang/Class;"⟩ ∈ TS := ts_mem 428 (by decide +kernel) rfl
theorem GC_4 : Cond.native ⟨"java/lang/Object", "getClass", "()Ljava/lang/Class;"⟩ ∈ TS := ts_mem 442 (by decide +kernel) rfl
theorem AC_1 : Cond.methodLink RJ7 150 arraycopyName ∈ TS := ts_mem 452 (by decide +kernel) rfl
theorem AC_2 : Cond.native arraycopyName ∈ TS := ts_mem 454 (by decide +kernel) rfl
theorem AC_3 : Cond.static arraycopyName ∈ TS := ts_mem 453 (by decide +kernel) rfl
theorem AC_4 : Cond.initialized "java/lang/System" ∈ TS := ts_mem 46 (by decide +kernel) rfl
section
variable {Φ : rb_F} {cc : ByteArray} {nL fr lo mc ms cells slots pc : Nat} {Lv Lv' : List (Option rb_V)} {st rest As : List rb_V} {G : rb_G}
theorem MC_1 : Cond.fieldLink RJx4a65c 63 "java/util/ArrayList" "modCount" "I" ∈ TS := ts_mem 79 (by decide +kernel) rfl
theorem MC_2 : Cond.sameField "java/util/ArrayList" "java/util/AbstractList" "modCount" "I" ∈ TS := ts_mem 80 (by decide +kernel) rfl
theorem rb_getMC (C : rb_C Φ RJx4a65c cc nL fr lo mc ms) {r : rb_R} (hd : decode cc pc = .ok (.getfield 63, 3)) (hk : rb_k r.1 = 0) (kk : rb_W Φ cells slots (pc + 3) Lv (rbI (gI G r 0) :: st) G) : rb_W Φ cells slots pc Lv (rbR r :: st) G := by
  obtain ⟨p, l, e, R, s, m, args, below, meth, c, Q, X, A, ad0, G0⟩ := Φ
  intro ad H locs ls hP hn hS hl ho hv
  have hr := ho.hd r rfl
  obtain ⟨-, hat⟩ := hP.1 r hr (by rw [hk]; decide)
  rw [rb_eo hk (by decide)] at hat
  refine va_get (C := RJx4a65c) (T := TJx4a65c) (N := 3) (ci := 0) C.1 C.2.1 C.2.2.2.2.1 inC_Jx4a65c C.2.2.2.1 C.2.2.2.2.2.2.2.2.1.1 (rb_one hat) 0 rfl rfl 0 (by decide) (ref := "java/util/ArrayList") (C.2.2.2.2.1 _ MC_1) (fun x hx => u_same (C.2.2.2.2.1 _ MC_2) x hx) (v := .int (gI G r 0)) ?_ hd (kk ad H locs ls hP hn hS hl (ho.tl.cons (rb_ok_i _ _)) hv)
  rw [rb_vals_get]
  rfl
theorem rb_putMC (C : rb_C Φ RJx4a65c cc nL fr lo mc ms) {r : rb_R} {v : Int32} (hd : decode cc pc = .ok (.putfield 63, 3)) (hk : rb_k r.1 = 0) (kk : rb_W Φ cells slots (pc + 3) Lv st (sI G r 0 v)) : rb_W Φ cells slots pc Lv (rbI v :: rbR r :: st) G := by
  obtain ⟨p, l, e, R, s, m, args, below, meth, c, Q, X, A, ad0, G0⟩ := Φ
  intro ad H locs ls hP hn hS hl ho hv
  have hr := ho.tl.hd r rfl
  have hk20 : rb_k r.1 < 20 := by rw [hk]; decide
  obtain ⟨hAr, hat⟩ := hP.1 r hr hk20
  rw [rb_eo hk (by decide)] at hat
  obtain ⟨r9, h1, cell, q1, q2, q3, q4⟩ := hat
  cases Option.some.inj (h1.symm.trans (rfl : vwCl[0]? = some (RJx4a65c, TJx4a65c, 3)))
  have hkN : 0 < 3 := by decide
  obtain ⟨hS9, hfc, kC, hkC, hkind⟩ := C.2.2.2.2.2.2.2.2.1.1.1 0 (RJx4a65c, TJx4a65c, 3) rfl
  obtain ⟨cf, kf, fi, f, hi, hsl⟩ := hS9 0 hkN
  have hap := va_apart (own := RJx4a65c) C.2.2.2.2.1 inC_Jx4a65c tyJx4a65c tyJx4a65c_ok nmJx4a65c C.2.2.2.2.2.2.2.2.1.1 (ci := 0) (N := 3) rfl
  have hlay := C.2.2.2.2.1 _ (inC_Jx4a65c _ (u_in_lay hkN))
  unfold u_lay at hlay
  rw [if_neg (by decide)] at hlay
  have hst := (u_facts hfc hkC (u_lays C.2.2.2.2.1 inC_Jx4a65c hkN) hi).1
  have h6 := u_store hfc hkC hkind hlay hi (ty := .int) (v := .int v) (tyJx4a65c_ok 0 hkN) rfl rfl
  refine W.putK C.1 C.2.1 (f := f) ⟨C.2.2.2.1, C.2.2.2.2.1 _ MC_1, ⟨_, _, _, u_same (C.2.2.2.2.1 _ MC_2) _ hi⟩, hst⟩ (by rw [q2]; exact h6) q1 q3 (by rw [hsl]; exact k2_hasslot (q4 0 hkN)) rfl rfl hd fun H' e1 e2 e3 => ?_
  rw [hsl] at e1 ⊢
  have hlen : 0 < (rb_vals (rb_c ad) (rb_lay 0) 0 (gI G r) (gP G r)).length := by rw [rb_vals_len]; decide
  refine kk ad H' _ ls (hP.upd hr hk20 ?_ e3 rfl (fun r' h => rb_e_sI h) hP.2.2.1) hn (hS.put e2 e3 hAr) hl ho.tl.tl hv
  rw [rb_eo hk (by decide)]
  refine ⟨_, rfl, t_OB.to (V := updV (vp_V (rb_vals (rb_c ad) (rb_lay 0) 0 (gI G r) (gP G r))) 0 (.int v)) ⟨_, e1, q2, q3, t_set q4 hap hkN _⟩ (fun j _ => ?_)⟩
  rw [vp_updV_set hlen]
  exact congrArg (fun l => vp_V l j) (rb_vals_setI (rb_c ad) (gI G r) (gI (sI G r 0 v) r) (gP G r) (rb_lay 0) 0 v rfl (up2_s _ _ _ _) (fun j hj => up2_n _ _ _ _ (fun q => hj q.2)))
end
