/-! exceptions -/
theorem rb_P.keep {X : rb_X} {ad : rb_R → Nat} {A : Nat → Prop} {G : rb_G} {H H1 : Heap} (hP : rb_P X ad A G H) (h : ∀ q : Nat, q < H.size → H1[q]? = H[q]?) : rb_P X ad A G H1 :=
  ⟨fun r hr hk => ⟨(hP.1 r hr hk).1, (hP.1 r hr hk).2.kept (h _ (hP.1 r hr hk).2.lt)⟩, hP.2⟩
def rb_sup : List String := ["java/lang/RuntimeException", "java/lang/Exception"]
def rb_Thr (ik ic : Nat) (cls : String) : Prop := Cond.classLink RX7 ik cls ∈ TS ∧ Cond.initialized cls ∈ TS ∧ Bundle.fit cls = true ∧ (∀ w ∈ (vx_atS RX7 ic cls rb_sup).filter goodWord, w ∈ TS) ∧ (∀ w ∈ (vx_atS RX7 ic cls rb_sup).filter (fun w => !goodWord w), w ∈ Cond.castable cls cls :: rb_dcl.map Cond.declares) ∧
  (cls, cls) ∈ rb_cst ∧ ∀ w ∈ Cond.classLink RX7 ik cls :: Cond.initialized cls :: vx_atS RX7 ic cls rb_sup, vx_ot w = true
section
variable {Φ : rb_F} {own : String} {cc : ByteArray} {nL fr lo mc ms cells slots pc : Nat} {Lv Lv' : List (Option rb_V)} {st rest As : List rb_V} {G : rb_G}
theorem rb_throw (C : rb_C Φ RX7 cc nL fr lo mc ms) {PX : String → rb_G → Prop} (hE : rb_EX Φ PX mc ms) {cls text : String} {ik is ic : Nat} (F : rb_Thr ik ic cls) (hst : (is, text) ∈ rb_strs) (d0 : decode cc pc = .ok (.new ik, 3)) (d3 : decode cc (pc + 3) = .ok (.dup, 1)) (d4 : decode cc (pc + 4) = .ok (.ldc is, 2)) (d6 : decode cc (pc + 6) = .ok (.invokespecial ic, 3)) (d9 : decode cc (pc + 9) = .ok (.athrow, 1))
    (hlen : Lv.length = nL) (hfr : 5 < fr) (hlo : (st.map rb_cat).sum + 82 ≤ lo) (hc : cells + 1 ≤ mc) (hs : slots + 6 ≤ ms) (hp : PX cls G) : rb_W Φ cells slots pc Lv st G := by
  obtain ⟨p, l, e, R, s, m, args, below, meth, c, Q, X, A, ad0, G0⟩ := Φ
  intro ad H locs ls hP hn hS hl ho hv
  have hR := C.2.2.2.2.2.2.1
  subst hR
  have hK1 := C.2.2.2.2.2.2.2.2.1
  have hK2 := C.2.2.2.2.2.2.2.2.2.1
  obtain ⟨ht, Qc, hQ⟩ := hE
  subst hQ
  obtain ⟨w1, w2, w3, w4, w5, w6, w7⟩ := F
  obtain ⟨sa, hsa⟩ := hK1.2.2.2.2.1 _ hst
  refine vx_throwS (names := rb_sup) (sa := sa) C.1 C.2.1 C.2.2.2.2.2.2.2.1 C.2.2.2.1 w3 (by decide +kernel) (C.2.2.2.2.1 _ w1) (C.2.2.2.2.1 _ w2) hsa
    (vx_hat (fun w hw => C.2.2.2.2.1 _ (w4 w hw)) w5 (vx_c (va_Nw.use rfl (hK1.2.2.1 _ w6)) (fun w hw => by obtain ⟨y, hy, e⟩ := List.mem_map.mp hw; rw [← e]; exact va_Nw.use rfl (hK1.2.2.2.2.2.2.2.2.2 y hy)))) w7 hK2.1 hK2.2.1 hS (by rw [hl.1, hlen, C.2.2.1]) d0 d3 d4 d6 d9 (fun x hx => (ht x hx).elim) hfr ?_ (Nat.le_trans hc (Nat.le_refl _)) (Nat.le_trans hs (Nat.le_refl _)) C.2.2.2.2.2.1
    (fun t hvm hz hk => ⟨⟨G, ad, hp, hn, hP.keep hk⟩, Nat.le_trans hS.1 hz, fun q h1 h2 => (hk q (Nat.lt_of_lt_of_le h1 hS.1)).trans (hS.2.1 q h1 h2)⟩) hS.2.2 hc hs
  show ((st.map (rb_c ad)).map fun v => v.category).sum + 82 ≤ lo
  rw [List.map_map, show ((fun v => Value.category v) ∘ rb_c ad) = rb_cat from funext fun v => rb_cat_c ad v]
  exact hlo
theorem rb_throwW (C : rb_C Φ RX7 cc nL fr lo mc ms) {PX : String → rb_G → Prop} (hE : rb_EX Φ PX mc ms) {cls text : String} {ik is ic : Nat} (F : rb_Thr ik ic cls) (hst : (is, text) ∈ rb_strs) (d0 : decode cc pc = .ok (.new ik, 3)) (d3 : decode cc (pc + 3) = .ok (.dup, 1)) (d4 : decode cc (pc + 4) = .ok (.ldc_w is, 3)) (d6 : decode cc (pc + 7) = .ok (.invokespecial ic, 3)) (d9 : decode cc (pc + 10) = .ok (.athrow, 1))
    (hlen : Lv.length = nL) (hfr : 5 < fr) (hlo : (st.map rb_cat).sum + 82 ≤ lo) (hc : cells + 1 ≤ mc) (hs : slots + 6 ≤ ms) (hp : PX cls G) : rb_W Φ cells slots pc Lv st G := by
  obtain ⟨p, l, e, R, s, m, args, below, meth, c, Q, X, A, ad0, G0⟩ := Φ
  intro ad H locs ls hP hn hS hl ho hv
  have hR := C.2.2.2.2.2.2.1
  subst hR
  have hK1 := C.2.2.2.2.2.2.2.2.1
  have hK2 := C.2.2.2.2.2.2.2.2.2.1
  obtain ⟨ht, Qc, hQ⟩ := hE
  subst hQ
  obtain ⟨w1, w2, w3, w4, w5, w6, w7⟩ := F
  obtain ⟨sa, hsa⟩ := hK1.2.2.2.2.1 _ hst
  refine vx_throwSW (names := rb_sup) (sa := sa) C.1 C.2.1 C.2.2.2.2.2.2.2.1 C.2.2.2.1 w3 (by decide +kernel) (C.2.2.2.2.1 _ w1) (C.2.2.2.2.1 _ w2) hsa
    (vx_hat (fun w hw => C.2.2.2.2.1 _ (w4 w hw)) w5 (vx_c (va_Nw.use rfl (hK1.2.2.1 _ w6)) (fun w hw => by obtain ⟨y, hy, e⟩ := List.mem_map.mp hw; rw [← e]; exact va_Nw.use rfl (hK1.2.2.2.2.2.2.2.2.2 y hy)))) w7 hK2.1 hK2.2.1 hS (by rw [hl.1, hlen, C.2.2.1]) d0 d3 d4 d6 d9 (fun x hx => (ht x hx).elim) hfr ?_ (Nat.le_trans hc (Nat.le_refl _)) (Nat.le_trans hs (Nat.le_refl _)) C.2.2.2.2.2.1
    (fun t hvm hz hk => ⟨⟨G, ad, hp, hn, hP.keep hk⟩, Nat.le_trans hS.1 hz, fun q h1 h2 => (hk q (Nat.lt_of_lt_of_le h1 hS.1)).trans (hS.2.1 q h1 h2)⟩) hS.2.2 hc hs
  show ((st.map (rb_c ad)).map fun v => v.category).sum + 82 ≤ lo
  rw [List.map_map, show ((fun v => Value.category v) ∘ rb_c ad) = rb_cat from funext fun v => rb_cat_c ad v]
  exact hlo
/-! methods with a table -/
def rb_T (Φ : rb_F) (hh : List (Nat × Nat × Nat × Nat)) : Prop := match Φ with
  | (_, _, _, _, _, _, _, _, _, c, _, _, _, _, _) => c.exceptionTable.toList = tableOf hh
theorem rb_startW {l : Launch} {X : rb_X} {y : MethodName} {cc : ByteArray} {maxL : Nat} {ret : Option FieldType} {hh : List (Nat × Nat × Nat × Nat)} {fr lo mc ms : Nat} {av : List rb_V} {G : rb_G} {Post : Option rb_V → rb_G → Prop} (own : String) (hy : y.cls = own) (hpl : plainName own = true) (hc1 : rb_c1 (av.map some) = true) (hn : av.length ≤ maxL)
    (body : ∀ Φ, rb_C Φ own cc maxL fr lo mc ms → rb_E Φ ret Post mc ms → rb_T Φ hh → rb_W Φ 0 0 0 (av.map some ++ List.replicate (maxL - av.length) none) [] G) : rb_N l X y (.codeWith y cc maxL ret hh) fr lo mc ms av G Post := by
  intro hl A ad
  refine va_MetW (cc := cc) (maxL := maxL) (ret := ret) (by rw [hy]; exact hpl) rfl ?_
  intro p e s m args below meth c s₁ B hml hv
  obtain ⟨rfl, hA, hP, hK1, hK2, hok⟩ := hv
  have hts0 := atoms_spec (ws := .codeWith y cc maxL ret hh :: TS) B.pre
  have K := body (p, l, e, (headSpec (.codeWith y cc maxL ret hh :: TS) { frames := fr, cells := mc, slots := ms, locals := lo }).room, s, m, (av.map (rb_c ad)).toArray, below, meth, c, MQ below (rb_Q X A ad G Post) (av.map (rb_c ad)).toArray s mc ms A, X, A, ad, G)
    ⟨B.exec, B.bytes, hml, by rw [← hy]; exact findClass_of_methodNamed B.named, fun w hw => hts0 w (List.mem_cons_of_mem _ hw), B.notSynchronized, rfl, hl, hK1, hK2, hA⟩ ⟨B.returns, fun _ _ _ h => h⟩ (vx_table (x := y) B (hts0 _ List.mem_cons_self))
  rw [lg_entry_eq]
  exact K ad s.heap [] _ hP rb_nx.rf va_S.rf (rb_entry ad av hc1 hn) (fun v hv => by cases hv) (fun v hv => by
    rcases List.mem_append.mp hv with h | h
    · obtain ⟨w, hw, e⟩ := List.mem_map.mp h
      cases e
      exact hok v hw
    · cases (List.mem_replicate.mp h).2)
/-- caught: astore; iconst; ireturn -/
theorem rb_catch (C : rb_C Φ own cc nL fr lo mc ms) {hh : List (Nat × Nat × Nat × Nat)} (T : rb_T Φ hh) {Post : Option rb_V → rb_G → Prop} (hE : rb_E Φ (some .int) Post mc ms) {E : String} (pre : List ExceptionTableEntry) (x : ExceptionTableEntry) (suf : List ExceptionTableEntry) (hsplit : tableOf hh = pre ++ x :: suf)
    (hpass : ∀ z ∈ pre, z.catchType ≠ 0 ∧ ∃ nm : String, Cond.classLink own z.catchType nm ∈ TS ∧ (E, nm) ∈ rb_ncs) (hx : covers x pc = true) (h0 : x.catchType ≠ 0) (hlk : Cond.classLink own x.catchType E ∈ TS) (hce : (E, E) ∈ rb_cst) {i pc1 pc2 : Nat} {n : Int} {v : Int32}
    (da : (decode cc x.handlerPc = .ok (.astore i, 2) ∧ pc1 = x.handlerPc + 2) ∨ (decode cc x.handlerPc = .ok (.astore_n 3, 1) ∧ i = 3 ∧ pc1 = x.handlerPc + 1)) (di : decode cc pc1 = .ok (.iconst n, 1)) (hp2 : pc2 = pc1 + 1) (dr : decode cc pc2 = .ok (.ireturn, 1)) (hv0 : Int32.ofInt n = v) (hi : i < Lv.length) (hc : cells ≤ mc) (hs : slots ≤ ms) (hp : Post (some (rbI v)) G) : rb_Wx Φ cells slots pc Lv st G E := by
  obtain ⟨p, l, e, R, s, m, args, below, meth, c, Q, X, A, ad0, G0⟩ := Φ
  intro ad H locs ls q ce hP hn hS hl ho hv h1 h2 h3
  have hK1 := C.2.2.2.2.2.2.2.2.1
  have hlk9 : meth.locks = false := C.2.2.2.2.2.1
  have hend : ∀ ls', W p l e R s m args below meth c H locs cells slots Q (F0 m pc1 ls' []) := by
    intro ls'
    refine lv_iconst C.1 C.2.1 di hv0 ?_
    rw [hp2] at dr
    exact W.widen hc hs (hE.2 H locs _ (W.iret C.1 C.2.1 hE.1 (fun t ht hW => ⟨⟨some (rbI v), G, ad, rfl, hp, hn, (fun w h => by cases h; exact rb_ok_i _ _), by rw [ht]; exact hP⟩, hS.F ht⟩) hS.2.2 dr hlk9))
  refine vx_catch (name := E) C.2.2.2.1 pre x suf (T.trans hsplit) (fun z hz => Or.inr ?_) hx h0 (C.2.2.2.2.1 _ hlk) (va_Nw.use rfl (hK1.2.2.1 _ hce)) h1 h2 h3 ?_
  · obtain ⟨z0, nm, z1, z2⟩ := hpass z hz
    exact ⟨z0, nm, C.2.2.2.2.1 _ z1, hK1.2.2.2.1 _ z2⟩
  · rcases da with ⟨da, e1⟩ | ⟨da, e0, e1⟩
    · rw [e1] at hend
      exact lv_astore C.1 C.2.1 da hl hi rfl (fun ls' _ => hend ls')
    · rw [e1] at hend
      exact lv_astore_n C.1 C.2.1 da rfl hl (by rw [e0] at hi; exact hi) rfl (fun ls' _ => hend ls')
def rb_SWc (own : String) (idx : Nat) (y : MethodName) (b : ByteArray) (n : Nat) (ret : Option FieldType) (hh : List (Nat × Nat × Nat × Nat)) (k : Nat) : Prop := Cond.methodLink own idx y ∈ TS ∧ Cond.static y ∈ TS ∧ Cond.initialized y.cls ∈ TS ∧ Cond.codeWith y b n ret hh ∈ TS ∧
  (y.cls ≠ "java/lang/invoke/MethodHandle" ∧ y.cls ≠ "java/lang/invoke/VarHandle" ∧ (parseMethodDescriptor y.desc).map (fun d => d.parameters.length) = some k)
theorem rb_callSW (C : rb_C Φ own cc nL fr lo mc ms) {idx n k fr' lo' mc' ms' : Nat} {y : MethodName} {b : ByteArray} {ret : Option FieldType} {hh : List (Nat × Nat × Nat × Nat)} {Post : Option rb_V → rb_G → Prop}
    (F : rb_SWc own idx y b n ret hh k) (hM : ∀ l X, rb_N l X y (.codeWith y b n ret hh) fr' lo' mc' ms' As G Post) (hd : decode cc pc = .ok (.invokestatic idx, 3)) (hst : st = As.reverse ++ rest) (hk9 : As.length = k) (hlen : Lv.length = nL) (hcat : (rest.map rb_cat).sum ≤ 8)
    (hroom : fr' + 1 ≤ fr ∧ 8 + (n + 11) + lo' ≤ lo) (hc9 : cells + mc' ≤ mc) (hs9 : slots + ms' ≤ ms) (kk : ∀ v G', Post v G' → rb_W Φ (cells + mc') (slots + ms') (pc + 3) Lv (v.toList ++ rest) G') : rb_W Φ cells slots pc Lv st G := by
  obtain ⟨p, l, e, R, s, m, args, below, meth, c, Q, X, A, ad0, G0⟩ := Φ
  intro ad H locs ls hP hn hS hl ho hv
  subst hst
  have hK1 := C.2.2.2.2.2.2.2.2.1
  have hR := C.2.2.2.2.2.2.1
  subst hR
  obtain ⟨w1, w2, w4, w5, w6⟩ := F
  have hor : rb_okL G rest := fun v hv => ho v (List.mem_append_right _ hv)
  have hoa : rb_okL G As := fun v h => ho v (List.mem_append_left _ (List.mem_reverse.mpr h))
  have hG : GoodIn TS (va_wsS own idx y (Cond.codeWith y b n ret hh :: TS)) := fun w hw => by
    unfold va_wsS at hw
    rcases List.mem_append.mp hw with h | h
    · simp only [List.mem_cons, List.not_mem_nil, or_false] at h
      rcases h with rfl | rfl | rfl
      · exact ts_good _ w1
      · exact ts_good _ w2
      · exact ts_good _ w4
    · exact ts_code w5 w h
  have hrun := vx_runSW (R := ({ frames := fr, cells := mc, slots := ms, locals := lo } : Room)) (n := k) (ret := ret) (maxL := n) (bytes := b) (hh := hh) (As := As.map (rb_c ad)) (rest := rest.map (rb_c ad)) (cells := cells) (slots := slots) (locs := locs) (e := e) (p := p) (H := H) (g := F0 m pc ls ((As.reverse ++ rest).map (rb_c ad)))
    (meth := meth) (below := below) ⟨C.1, C.2.1, C.2.2.1, C.2.2.2.1, C.2.2.2.2.1⟩ (hM l X C.2.2.2.2.2.2.2.1 A ad) (vx_cwSW k C.2.2.2.2.1 hG rfl rfl rfl w6 hroom)
    ⟨rb_blind, fun U hU hW => ⟨rfl, fun q hq => C.2.2.2.2.2.2.2.2.2.2 q (Nat.le_trans hS.1 (by rw [← hU]; exact hq)), by rw [hU]; exact hP, hK1.warm hW, by rw [hU]; exact C.2.2.2.2.2.2.2.2.2.1.moved hW.alike hS.1 hS.2.1, hoa⟩⟩
    rfl (by rw [List.length_map]; exact hk9) (by show ls.size = nL; rw [hl.1, hlen]) (by show (As.reverse ++ rest).map (rb_c ad) = _; rw [List.map_append, List.map_reverse])
    (lv_room (by rw [List.map_map, show ((fun v => Value.category v) ∘ rb_c ad) = rb_cat from funext fun v => rb_cat_c ad v]; exact hcat)) hd ⟨hc9, hs9⟩
  exact rb_after (PX := fun _ _ => False) (rb_run_x hrun) hn hS hl hor hv kk (fun E G' h => h.elim)
end
