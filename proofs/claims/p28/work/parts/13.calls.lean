/-! new cells -/
theorem rb_e_nx {ad ad' : rb_R → Nat} {cA : Nat → ClassId} {G G' : rb_G} {r : rb_R} (h : ∀ r', gD G r' → ad' r' = ad r') (hr : gD G r) (hcl : ∀ r1 k r2, gD G r1 → gP G r1 k = some r2 → gD G r2) (hN : gN G' r = gN G r) (hI : gI G' r = gI G r) (hP : gP G' r = gP G r) (hJ : gJ G' r = gJ G r) : rb_e ad' cA G' r = rb_e ad cA G r := by
  have e1 : ∀ k, rb_c ad' (rbO (gP G r k)) = rb_c ad (rbO (gP G r k)) := by
    intro k
    cases hq : gP G r k with
    | none => rfl
    | some z => show Value.ref (ad' z) = Value.ref (ad z); rw [h z (hcl r k z hr hq)]
  have e2 : ∀ l k0, rb_vals (rb_c ad') l k0 (gI G r) (gP G r) = rb_vals (rb_c ad) l k0 (gI G r) (gP G r) := by
    intro l k0
    apply List.ext_getElem?
    intro j
    rw [rb_vals_get, rb_vals_get, e1]
    rfl
  have e3 : (fun j => (gP G r j).map ad') = fun j => (gP G r j).map ad := by
    funext j
    cases hq : gP G r j with
    | none => rfl
    | some z => show some (ad' z) = some (ad z); rw [h z (hcl r j z hr hq)]
  unfold rb_e
  rw [hN, hI, hP, hJ, e2, e3]
theorem rb_ls.nx {G G' : rb_G} {ad ad' : rb_R → Nat} {ls : Array Slot} {Lv : List (Option rb_V)} (hn : rb_nx G ad G' ad') (hv : rb_okO G Lv) (h : rb_ls ad ls Lv) : rb_ls ad' ls Lv := by
  refine ⟨h.1, h.2.1, fun q hq => ?_⟩
  obtain ⟨k, v, h1, rfl⟩ := (rb_al_mem ad' Lv 0 q).mp hq
  refine h.2.2 _ ((rb_al_mem ad Lv 0 _).mpr ⟨k, v, h1, ?_⟩)
  rw [rb_c_nx hn (hv v (List.mem_of_getElem? h1))]
def rb_adN (ad : rb_R → Nat) (r : rb_R) (q : Nat) : rb_R → Nat := fun x => if x = r then q else ad x
theorem rb_nx.new {G : rb_G} {ad : rb_R → Nat} {r : rb_R} {n q : Nat} (hf : ¬ gD G r) : rb_nx G ad (sN G r n) (rb_adN ad r q) := fun x hx => ⟨Or.inr hx, by
  unfold rb_adN
  rw [if_neg (fun e => hf (by rw [← e]; exact hx))]⟩
theorem rb_P.new {X : rb_X} {ad : rb_R → Nat} {A : Nat → Prop} {G : rb_G} {H H1 : Heap} {r : rb_R} {n : Nat} (hP : rb_P X ad A G H) (hf : ¬ gD G r) (hk : rb_k r.1 < 20) (hA : A H.size) (ho : ∀ q : Nat, q < H.size → H1[q]? = H[q]?)
    (hat : va_at X.1 vwCl (H.size, rb_e (rb_adN ad r H.size) X.2.1 (sN G r n) r) H1) : rb_P X (rb_adN ad r H.size) A (sN G r n) H1 := by
  obtain ⟨h1, h2, h3, h4, h5⟩ := hP
  have hnx : ∀ r', gD G r' → rb_adN ad r H.size r' = ad r' := fun r' hr' => (rb_nx.new (n := n) (q := H.size) (ad := ad) hf r' hr').2
  have hself : rb_adN ad r H.size r = H.size := by unfold rb_adN; rw [if_pos rfl]
  refine ⟨fun r' hr' hk' => ?_, fun r1 r2 a b k1 k2 e => ?_, fun r1 k r2 a b => ?_, ?_, ?_⟩
  · by_cases e : r' = r
    · subst e
      rw [hself]
      exact ⟨hA, hat⟩
    · have hr0 : gD G r' := hr'.resolve_left e
      obtain ⟨g1, g2⟩ := h1 r' hr0 hk'
      rw [hnx r' hr0]
      refine ⟨g1, ?_⟩
      rw [rb_e_nx (ad := ad) (G := G) hnx hr0 h3 (by show (if r' = r then n else gN G r') = gN G r'; rw [if_neg e]) (by funext k; show (if r' = r then 0 else gI G r' k) = gI G r' k; rw [if_neg e]) (by funext k; show (if r' = r then none else gP G r' k) = gP G r' k; rw [if_neg e]) (by funext k; show (if r' = r then 0 else gJ G r' k) = gJ G r' k; rw [if_neg e])]
      exact g2.kept (ho _ g2.lt)
  · by_cases e1 : r1 = r
    · by_cases e2 : r2 = r
      · rw [e1, e2]
      · have hr0 : gD G r2 := b.resolve_left e2
        have := (h1 r2 hr0 k2).2.lt
        rw [e1, hself, hnx r2 hr0] at e
        have : ad r2 < H.size := this
        omega
    · have hr1 : gD G r1 := a.resolve_left e1
      by_cases e2 : r2 = r
      · have := (h1 r1 hr1 k1).2.lt
        rw [e2, hself, hnx r1 hr1] at e
        have : ad r1 < H.size := this
        omega
      · have hr2 : gD G r2 := b.resolve_left e2
        rw [hnx r1 hr1, hnx r2 hr2] at e
        exact h2 r1 r2 hr1 hr2 k1 k2 e
  · have b' : (if r1 = r then none else gP G r1 k) = some r2 := b
    split at b'
    · cases b'
    · exact Or.inr (h3 r1 k r2 (a.resolve_left (by assumption)) b')
  · unfold rb_adN
    rw [if_neg (fun e => by rw [← e] at hk; exact absurd hk (by decide))]
    exact h4
  · unfold rb_adN
    rw [if_neg (fun e => by rw [← e] at hk; exact absurd hk (by decide)), if_neg (fun e => by rw [← e] at hk; exact absurd hk (by decide))]
    exact h5
theorem va_S.new {A : Nat → Prop} {H0 H H1 : Heap} {locs : List Loc} (h : va_S A H0 H locs) (z : H1.size = H.size + 1) (o : ∀ q : Nat, q < H.size → H1[q]? = H[q]?) : va_S A H0 H1 locs :=
  ⟨Nat.le_trans h.1 (by omega), fun q h1 h2 => (o q (Nat.lt_of_lt_of_le h1 h.1)).trans (h.2.1 q h1 h2), h.2.2⟩
def rb_z : List Bool → List Value
  | [] => []
  | b :: t => (if b = true then Value.null else .int 0) :: rb_z t
theorem rb_vals_z (ad : rb_R → Nat) : ∀ (l : List Bool) (k0 : Nat), rb_vals (rb_c ad) l k0 (fun _ => 0) (fun _ => none) = rb_z l := by
  intro l
  induction l with
  | nil => intro k0; rfl
  | cons b t ih =>
    intro k0
    show (if b = true then Value.null else Value.int 0) :: rb_vals (rb_c ad) t (k0 + 1) (fun _ => 0) (fun _ => none) = _
    rw [ih]
    rfl
/-- a class that is made: by its pool number, its number in vwCl, its slots -/
def rb_Cls (own : String) (idx ci N : Nat) : Prop := ∃ (RC : String) (TT : u_T) (ty0 : Nat → FieldType), vwCl[ci]? = some (RC, TT, N) ∧ (∀ w ∈ u_ws RC TT N, w ∈ TS) ∧ ci < 10 ∧ Cond.classLink own idx RC ∈ TS ∧ Cond.instantiable RC N ∈ TS ∧ Cond.initialized RC ∈ TS ∧
  (∀ k, k < N → parseFieldDescriptor (TT k).2.2.1 = some (ty0 k)) ∧ ∀ j, j < N → defaultValue (ty0 j) = vp_V (rb_z (rb_lay ci)) j
section
variable {Φ : rb_F} {own : String} {cc : ByteArray} {nL fr lo mc ms cells slots pc : Nat} {Lv Lv' : List (Option rb_V)} {st rest As : List rb_V} {G : rb_G}
theorem sN_I {G : rb_G} {r : rb_R} {n : Nat} : gI (sN G r n) r = fun _ => 0 := by funext k; show (if r = r then 0 else _) = 0; rw [if_pos rfl]
theorem sN_P {G : rb_G} {r : rb_R} {n : Nat} : gP (sN G r n) r = fun _ => none := by funext k; show (if r = r then none else _) = none; rw [if_pos rfl]
theorem sN_J {G : rb_G} {r : rb_R} {n : Nat} : gJ (sN G r n) r = fun _ => 0 := by funext k; show (if r = r then 0 else _) = 0; rw [if_pos rfl]
theorem sN_N {G : rb_G} {r : rb_R} {n : Nat} : gN (sN G r n) r = n := by show (if r = r then n else _) = n; rw [if_pos rfl]
theorem rb_new (C : rb_C Φ own cc nL fr lo mc ms) (r : rb_R) {idx ci N : Nat} (F : rb_Cls own idx ci N) (hd : decode cc pc = .ok (.new idx, 3)) (hk : rb_k r.1 = ci) (hf : ¬ gD G r) (hc : cells + 1 ≤ mc) (hs : slots + N ≤ ms) (kk : rb_W Φ (cells + 1) (slots + N) (pc + 3) Lv (rbR r :: st) (sN G r 0)) : rb_W Φ cells slots pc Lv st G := by
  obtain ⟨p, l, e, R, s, m, args, below, meth, c, Q, X, A, ad0, G0⟩ := Φ
  intro ad H locs ls hP hn hS hl ho hv
  obtain ⟨RC, TT, ty0, hcl, hin, hci, hlk, hinst, hini, hty, hdef⟩ := F
  have hK1 := C.2.2.2.2.2.2.2.2.1
  have hR := C.2.2.2.2.2.2.1
  subst hR
  have hKn := hK1.1.1 ci _ hcl
  refine W.newcK C.1 C.2.1 C.2.2.2.1 (C.2.2.2.2.1 _ hlk) (C.2.2.2.2.1 _ hinst) (C.2.2.2.2.1 _ hini) rfl hd hc hs hKn.2.1 rfl fun H1 kC hkC e1 z1 o1 => ?_
  have hnx : rb_nx G ad (sN G r 0) (rb_adN ad r H.size) := rb_nx.new hf
  have hA : A H.size := C.2.2.2.2.2.2.2.2.2.2 _ hS.1
  have key : rb_P X (rb_adN ad r H.size) A (sN G r 0) H1 := by
    refine hP.new hf (by rw [hk]; omega) hA o1 ?_
    rw [rb_eo hk hci, sN_I, sN_P, rb_vals_z]
    exact ⟨_, hcl, (u_born ty0 C.2.2.2.2.1 hin hKn hkC e1 hty).to hdef⟩
  have hself : rb_adN ad r H.size r = H.size := by unfold rb_adN; rw [if_pos rfl]
  have h := kk (rb_adN ad r H.size) H1 locs ls key (hn.tr hnx) (hS.new z1 o1) (hl.nx hnx hv) ((ho.mono (fun x hx => (hnx x hx).1)).cons (rb_ok_r (Or.inl rfl))) (hv.mono (fun x hx => (hnx x hx).1))
  have e2 : (rbR r :: st).map (rb_c (rb_adN ad r H.size)) = Value.ref H.size :: st.map (rb_c ad) := by
    show Value.ref (rb_adN ad r H.size r) :: st.map (rb_c (rb_adN ad r H.size)) = _
    rw [hself, rb_map_nx hnx ho]
  rw [e2] at h
  exact h
theorem rb_newaG (C : rb_C Φ own cc nL fr lo mc ms) (r : rb_R) {at' : ArrayType} {k t0 : Nat} {n : Int32} {N : Nat} {ty : FieldType} (hw : Cond.arrayClass (newarray.typeOf at') ∈ TS) (hty : newarray.typeOf at' = ty) (ht0 : ∀ cA, (rb_tys cA)[t0]? = some (cA k, ty)) (hnr : ∀ U c, va_RA U c ty = (U.vm.findClass ("[" ++ ty.toString) = some c))
    (hd : decode cc pc = .ok (.newarray at', 2)) (hk : rb_k r.1 = k) (hk20 : k < 20) (he : ∀ (ad : rb_R → Nat) (cA : Nat → ClassId), rb_e ad cA (sN G r N) r = .inl (cA k, (rb_e ad cA (sN G r N) r).elim (fun x => x.2) (fun _ => (0, .inl fun _ => 0))) ∧ vp_cell (cA k) ((rb_e ad cA (sN G r N) r).elim (fun x => x.2) (fun _ => (0, .inl fun _ => 0))) = arrV (cA k) N (fun _ => defaultValue ty))
    (hf : ¬ gD G r) (hn : ¬ n < 0) (hN : n.toNatClampNeg = N) (hby : N * componentBytes ty ≤ 536870912) (hc : cells + 1 ≤ mc) (hs : slots + N ≤ ms) (kk : rb_W Φ (cells + 1) (slots + N) (pc + 2) Lv (rbR r :: st) (sN G r N)) : rb_W Φ cells slots pc Lv (rbI n :: st) G := by
  obtain ⟨p, l, e, R, s, m, args, below, meth, c, Q, X, A, ad0, G0⟩ := Φ
  intro ad H locs ls hP hn' hS hl ho hv
  have hK1 := C.2.2.2.2.2.2.2.2.1
  have hR := C.2.2.2.2.2.2.1
  subst hR
  subst hty
  refine va_newaK C.1 C.2.1 (C.2.2.2.2.1 _ hw) rfl hd rfl hn hN hby hc hs rfl fun H1 cA' e1 z1 o1 _ hnm => ?_
  have hnx : rb_nx G ad (sN G r N) (rb_adN ad r H.size) := rb_nx.new hf
  have hA : A H.size := C.2.2.2.2.2.2.2.2.2.2 _ hS.1
  have hcA : cA' = X.2.1 k := by
    have h2 := (hK1.1.2 t0 _ (ht0 X.2.1)).2
    rw [hnr] at h2
    exact Option.some.inj (hnm.symm.trans h2)
  subst hcA
  have key : rb_P X (rb_adN ad r H.size) A (sN G r N) H1 := by
    refine hP.new hf (by rw [hk]; exact hk20) hA o1 ?_
    obtain ⟨x1, x2⟩ := he (rb_adN ad r H.size) X.2.1
    rw [x1]
    show H1[H.size]? = some (vp_cell _ _)
    rw [x2]
    exact e1
  have hself : rb_adN ad r H.size r = H.size := by unfold rb_adN; rw [if_pos rfl]
  have h := kk (rb_adN ad r H.size) H1 locs ls key (hn'.tr hnx) (hS.new z1 o1) (hl.nx hnx hv) ((ho.tl.mono (fun x hx => (hnx x hx).1)).cons (rb_ok_r (Or.inl rfl))) (hv.mono (fun x hx => (hnx x hx).1))
  have e2 : (rbR r :: st).map (rb_c (rb_adN ad r H.size)) = Value.ref H.size :: st.map (rb_c ad) := by
    show Value.ref (rb_adN ad r H.size r) :: st.map (rb_c (rb_adN ad r H.size)) = _
    rw [hself, rb_map_nx hnx ho.tl]
  rw [e2] at h
  exact h
theorem rb_newaI (C : rb_C Φ own cc nL fr lo mc ms) (r : rb_R) {n : Int32} (N : Nat) (hw : Cond.arrayClass .int ∈ TS) (hd : decode cc pc = .ok (.newarray .int, 2)) (hk : rb_k r.1 = 10) (hf : ¬ gD G r) (hn : ¬ n < 0) (hN : n.toNatClampNeg = N) (hby : N * 4 ≤ 536870912) (hc : cells + 1 ≤ mc) (hs : slots + N ≤ ms) (kk : rb_W Φ (cells + 1) (slots + N) (pc + 2) Lv (rbR r :: st) (sN G r N)) : rb_W Φ cells slots pc Lv (rbI n :: st) G := by
  refine rb_newaG C r (at' := .int) (k := 10) (t0 := 0) (ty := .int) hw rfl (fun _ => rfl) (fun _ _ => rfl) hd hk (by decide) (fun ad cA => ?_) hf hn hN hby hc hs kk
  rw [rb_eI hk (by decide) (by decide)]
  refine ⟨rfl, ?_⟩
  show vp_cell _ (gN (sN G r N) r, .inl (gI (sN G r N) r)) = _
  rw [sN_N, sN_I]
  rfl
/-- anewarray -/
theorem rb_anew (C : rb_C Φ own cc nL fr lo mc ms) (r : rb_R) {idx k : Nat} {n : Int32} (N : Nat) (hw : Cond.classLink own idx (rb_cp k) ∈ TS) (h1 : 12 < k) (h2 : k < 16) (hd : decode cc pc = .ok (.anewarray idx, 3)) (hk : rb_k r.1 = k) (hf : ¬ gD G r) (hn : ¬ n < 0) (hN : n.toNatClampNeg = N) (hby : N * 4 ≤ 536870912) (hc : cells + 1 ≤ mc) (hs : slots + N ≤ ms) (kk : rb_W Φ (cells + 1) (slots + N) (pc + 3) Lv (rbR r :: st) (sN G r N)) : rb_W Φ cells slots pc Lv (rbI n :: st) G := by
  obtain ⟨p, l, e, R, s, m, args, below, meth, c, Q, X, A, ad0, G0⟩ := Φ
  intro ad H locs ls hP hn' hS hl ho hv
  have hK1 := C.2.2.2.2.2.2.2.2.1
  have hR := C.2.2.2.2.2.2.1
  subst hR
  subst hN
  have hAO : va_AO (rb_cp k) s := hK1.2.1 _ (by rcases (by omega : k = 13 ∨ k = 14 ∨ k = 15) with rfl | rfl | rfl <;> simp [rb_cp])
  refine W.anew C.1 C.2.1 C.2.2.2.1 (C.2.2.2.2.1 _ hw) (va_AO.use hAO) rfl hd rfl hn hby hc hs fun cA' kA comp f1 f2 f3 f4 => ?_
  generalize hH1 : H.push ({ cls := cA', slots := Array.replicate n.toNatClampNeg .null, vm := .none } : Cell) = H1
  have z1 : H1.size = H.size + 1 := by rw [← hH1, Array.size_push]
  have e1 : H1[H.size]? = some (arrV cA' n.toNatClampNeg (fun _ => .null)) := by rw [← hH1, Array.getElem?_push_size, ← arrV_new]
  have o1 : ∀ q : Nat, q < H.size → H1[q]? = H[q]? := fun q hq => by rw [← hH1, Array.getElem?_push, if_neg (Nat.ne_of_lt hq)]
  have hnx : rb_nx G ad (sN G r n.toNatClampNeg) (rb_adN ad r H.size) := rb_nx.new hf
  have hA : A H.size := C.2.2.2.2.2.2.2.2.2.2 _ hS.1
  have hcA : cA' = X.2.1 k := by
    obtain ⟨kA2, comp2, g1, g2, g3, g4⟩ := (hK1.1.2 (k - 12) _ (rb_tys_q X.2.1 h1 h2)).2
    exact Option.some.inj (f1.symm.trans g4)
  subst hcA
  have key : rb_P X (rb_adN ad r H.size) A (sN G r n.toNatClampNeg) H1 := by
    refine hP.new hf (by rw [hk]; omega) hA o1 ?_
    rw [rb_eP hk h1, sN_N, sN_P]
    exact e1
  have hself : rb_adN ad r H.size r = H.size := by unfold rb_adN; rw [if_pos rfl]
  have h := kk (rb_adN ad r H.size) H1 locs ls key (hn'.tr hnx) (hS.new z1 o1) (hl.nx hnx hv) ((ho.tl.mono (fun x hx => (hnx x hx).1)).cons (rb_ok_r (Or.inl rfl))) (hv.mono (fun x hx => (hnx x hx).1))
  have e2 : (rbR r :: st).map (rb_c (rb_adN ad r H.size)) = Value.ref H.size :: st.map (rb_c ad) := by
    show Value.ref (rb_adN ad r H.size r) :: st.map (rb_c (rb_adN ad r H.size)) = _
    rw [hself, rb_map_nx hnx ho.tl]
  rw [e2] at h
  exact h
/-- checkcast of an object of just that class -/
theorem rb_cast (C : rb_C Φ own cc nL fr lo mc ms) {r : rb_R} {idx ci N : Nat} {RC : String} {TT : u_T} (hw : Cond.classLink own idx RC ∈ TS) (hc : vwCl[ci]? = some (RC, TT, N)) (hci : ci < 10) (hd : decode cc pc = .ok (.checkcast idx, 3)) (hk : rb_k r.1 = ci) (kk : rb_W Φ cells slots (pc + 3) Lv (rbR r :: st) G) : rb_W Φ cells slots pc Lv (rbR r :: st) G := by
  obtain ⟨p, l, e, R, s, m, args, below, meth, c, Q, X, A, ad0, G0⟩ := Φ
  intro ad H locs ls hP hn hS hl ho hv
  have hK1 := C.2.2.2.2.2.2.2.2.1
  obtain ⟨-, hat⟩ := hP.1 r (ho.hd r rfl) (by rw [hk]; omega)
  rw [rb_eo hk hci] at hat
  exact va_castS C.1 C.2.1 C.2.2.2.1 (C.2.2.2.2.1 _ hw) (hK1.1.1 ci _ hc).2 (va_recv hK1.1 (rb_one hat) hc (q0 := 0) rfl) hd (kk ad H locs ls hP hn hS hl ho hv)
/-- the static that holds ArrayList's empty row -/
theorem rb_getE (C : rb_C Φ own cc nL fr lo mc ms) {idx : Nat} (hw : Cond.fieldLink own idx "java/util/ArrayList" "DEFAULTCAPACITY_EMPTY_ELEMENTDATA" "[Ljava/lang/Object;" ∈ TS) (hd : decode cc pc = .ok (.getstatic idx, 3)) (hD : gD G (19, 0, 0)) (kk : rb_W Φ cells slots (pc + 3) Lv (rbR (19, 0, 0) :: st) G) : rb_W Φ cells slots pc Lv st G := by
  obtain ⟨p, l, e, R, s, m, args, below, meth, c, Q, X, A, ad0, G0⟩ := Φ
  intro ad H locs ls hP hn hS hl ho hv
  have h := kk ad H locs ls hP hn hS hl (ho.cons (rb_ok_r hD)) hv
  have e1 : (rbR (19, 0, 0) :: st).map (rb_c ad) = Value.ref X.2.2.1 :: st.map (rb_c ad) := by
    show Value.ref (ad (19, 0, 0)) :: _ = _
    rw [hP.2.2.2.1]
  rw [e1] at h
  exact va_gets C.1 C.2.1 C.2.2.2.2.2.2.2.2.2.1.2.2.1 hS C.2.2.2.1 (C.2.2.2.2.1 _ hw) (fun _ h => h) hd h
/-! calls -/
theorem rb_run_x {p : Program} {l : Launch} {e : Env} {R : Room} {s : State} {m : MethodId} {args : Array Value} {below : List Frame} {meth : Method} {c : Code} {H : Heap} {locs : List Loc} {mc' ms' : Nat} {g : JFrame} {rs : List Value} {Qa : State → Outcome → State → Prop} {XC : String → State → State → Prop} {free : Addr → Prop}
    (h : va_Run p l e R s m args below meth c H locs cells slots mc' ms' g rs Qa free) : vx_Run p l e R s m args below meth c H locs cells slots mc' ms' g rs Qa XC free := by
  intro T hT X
  exact Or.inl (h T hT X)
theorem rb_after {p : Program} {l : Launch} {e : Env} {R : Room} {s : State} {m : MethodId} {args : Array Value} {below : List Frame} {meth : Method} {c : Code} {Q : State → Prop} {X : rb_X} {A : Nat → Prop} {ad0 ad : rb_R → Nat} {G0 : rb_G} {H : Heap} {locs : List Loc} {ls : Array Slot} {mc' ms' : Nat} {st0 : List Value} {a : Array Value} {Post : Option rb_V → rb_G → Prop} {PX : String → rb_G → Prop}
    (hr : vx_Run p l e R s m args below meth c H locs cells slots mc' ms' (F0 m pc ls st0) (rest.map (rb_c ad)) (rb_Q X A ad G Post a) (rb_QX X A ad G PX) A) (hn : rb_nx G0 ad0 G ad) (hS : va_S A s.heap H locs) (hl : rb_ls ad ls Lv) (ho : rb_okL G rest) (hv : rb_okO G Lv)
    (kk : ∀ v G', Post v G' → rb_W (p, l, e, R, s, m, args, below, meth, c, Q, X, A, ad0, G0) (cells + mc') (slots + ms') (pc + 3) Lv (v.toList ++ rest) G')
    (kx : ∀ E G', PX E G' → rb_Wx (p, l, e, R, s, m, args, below, meth, c, Q, X, A, ad0, G0) (cells + mc') (slots + ms') pc Lv rest G' E) : W p l e R s m args below meth c H locs cells slots Q (F0 m pc ls st0) := by
  intro T hT Xs
  rcases hr T hT Xs with ⟨v, st₀, t, T', L, h0, X', hL, e1, e2, ⟨⟨v', G', ad', hv', hp, hnx, hok, hP'⟩, hF⟩, stp⟩ | ⟨q, st₀, t, T', L, E, ce, h0, X', hL, e1, e2, ⟨⟨G', ad', hp, hnx, hP'⟩, hF⟩, hce, hcv, hcl, stp⟩
  · cases hv'
    obtain ⟨k1, k2, k3⟩ := vx_keep h0 e1 hS (fun _ _ h => h) (fun _ h => h) hL hF
    have hmono : ∀ r, gD G r → gD G' r := fun r hr => (hnx r hr).1
    have hok2 : rb_okL G' (v'.toList ++ rest) := by
      intro w hw
      rcases List.mem_append.mp hw with h | h
      · exact hok w (by simpa using h)
      · exact (ho w h).mono hmono
    obtain ⟨t2, a1, b1⟩ := kk v' G' hp ad' T'.heap (locs ++ L) ls (by rw [e1]; exact hP') (hn.tr hnx) k3 (hl.nx hnx hv) hok2 (hv.mono hmono) T' rfl X'
    refine ⟨t2, stp t2 ?_, b1⟩
    have e3 : (v'.toList ++ rest).map (rb_c ad') = (v'.map (rb_c ad')).toList ++ rest.map (rb_c ad) := by
      rw [List.map_append, rb_map_nx hnx ho]
      cases v' <;> rfl
    rw [e3] at a1
    exact a1
  · obtain ⟨k1, k2, k3⟩ := vx_keep h0 e1 hS (fun _ _ h => h) (fun _ h => h) hL hF
    have hmono : ∀ r, gD G r → gD G' r := fun r hr => (hnx r hr).1
    obtain ⟨t2, a1, b1⟩ := kx E G' hp ad' T'.heap (locs ++ L) ls q ce (by rw [e1]; exact hP') (hn.tr hnx) k3 (hl.nx hnx hv) (ho.mono hmono) (hv.mono hmono) (by rw [e1]; exact hce) hcv hcl T' rfl X'
    refine ⟨t2, stp.trans ?_, b1⟩
    rw [rb_map_nx hnx ho] at a1
    exact a1
/-- the words of a call -/
def rb_Vc (own : String) (idx : Nat) (D : String) (y : MethodName) (b : ByteArray) (n : Nat) (ret : Option FieldType) (k : Nat) : Prop := Cond.methodLink own idx y ∈ TS ∧ Cond.instanceMethod y ∈ TS ∧ Cond.selects D y y ∈ TS ∧ Cond.initialized D ∈ TS ∧ Cond.code y b n ret ∈ TS ∧
  (y.cls = D ∧ y.cls ≠ "java/lang/invoke/MethodHandle" ∧ y.cls ≠ "java/lang/invoke/VarHandle" ∧ (parseMethodDescriptor y.desc).map (fun d => d.parameters.length) = some k)
def rb_Sc (own : String) (idx : Nat) (y : MethodName) (b : ByteArray) (n : Nat) (ret : Option FieldType) (k : Nat) : Prop := Cond.methodLink own idx y ∈ TS ∧ Cond.static y ∈ TS ∧ Cond.initialized y.cls ∈ TS ∧ Cond.code y b n ret ∈ TS ∧
  (y.cls ≠ "java/lang/invoke/MethodHandle" ∧ y.cls ≠ "java/lang/invoke/VarHandle" ∧ (parseMethodDescriptor y.desc).map (fun d => d.parameters.length) = some k)
def rb_Ic (own : String) (idx : Nat) (y : MethodName) (b : ByteArray) (n : Nat) (k : Nat) : Prop := Cond.methodLink own idx y ∈ TS ∧ Cond.instanceMethod y ∈ TS ∧ Cond.initialized y.cls ∈ TS ∧ Cond.code y b n none ∈ TS ∧ y.name = "<init>" ∧
  (y.cls ≠ "java/lang/invoke/MethodHandle" ∧ y.cls ≠ "java/lang/invoke/VarHandle" ∧ (parseMethodDescriptor y.desc).map (fun d => d.parameters.length) = some k)
/-- a method called by a name, on an object of just that class -/
theorem rb_callV (C : rb_C Φ own cc nL fr lo mc ms) {r : rb_R} {idx n k ci N fr' lo' mc' ms' : Nat} {D : String} {TT : u_T} {y : MethodName} {b : ByteArray} {ret : Option FieldType} {Post : Option rb_V → rb_G → Prop} {PX : String → rb_G → Prop}
    (F : rb_Vc own idx D y b n ret k) (hM : ∀ l X, rb_M l X y (.code y b n ret) fr' lo' mc' ms' (rbR r :: As) G Post PX) (hc : vwCl[ci]? = some (D, TT, N)) (hci : ci < 10) (hk : rb_k r.1 = ci) (hd : decode cc pc = .ok (.invokevirtual idx, 3)) (hst : st = As.reverse ++ (rbR r :: rest)) (hk9 : As.length = k) (hlen : Lv.length = nL) (hcat : (rest.map rb_cat).sum ≤ 8)
    (hroom : fr' + 1 ≤ fr ∧ 8 + (n + 11) + lo' ≤ lo) (hc9 : cells + mc' ≤ mc) (hs9 : slots + ms' ≤ ms) (kk : ∀ v G', Post v G' → rb_W Φ (cells + mc') (slots + ms') (pc + 3) Lv (v.toList ++ rest) G') (kx : ∀ E G', PX E G' → rb_Wx Φ (cells + mc') (slots + ms') pc Lv rest G' E) : rb_W Φ cells slots pc Lv st G := by
  obtain ⟨p, l, e, R, s, m, args, below, meth, c, Q, X, A, ad0, G0⟩ := Φ
  intro ad H locs ls hP hn hS hl ho hv
  subst hst
  have hK1 := C.2.2.2.2.2.2.2.2.1
  have hR := C.2.2.2.2.2.2.1
  subst hR
  obtain ⟨w1, w2, w3, w4, w5, w6⟩ := F
  have hor : rb_okL G (rbR r :: rest) := fun v hv => ho v (List.mem_append_right _ hv)
  have hoa : rb_okL G (rbR r :: As) := fun v hv => (List.mem_cons.mp hv).elim (fun e => by rw [e]; exact hor.hd) (fun h => ho v (List.mem_append_left _ (List.mem_reverse.mpr h)))
  obtain ⟨-, hat⟩ := hP.1 r (hor.hd r rfl) (by rw [hk]; omega)
  rw [rb_eo hk hci] at hat
  have hG : GoodIn TS (wsV own idx D y (Cond.code y b n ret :: TS)) := fun w hw => by
    unfold wsV at hw
    rcases List.mem_append.mp hw with h | h
    · simp only [List.mem_cons, List.not_mem_nil, or_false] at h
      rcases h with rfl | rfl | rfl | rfl
      · exact ts_good _ w1
      · exact ts_good _ w2
      · exact ts_good _ w3
      · exact ts_good _ w4
    · exact ts_code w5 w h
  have hrun := vx_runV (R := ({ frames := fr, cells := mc, slots := ms, locals := lo } : Room)) (n := k) (ret := ret) (maxL := n) (bytes := b) (As := As.map (rb_c ad)) (rest := rest.map (rb_c ad)) (cells := cells) (slots := slots) (locs := locs) (b := ad r) (e := e) (p := p) (g := F0 m pc ls ((As.reverse ++ (rbR r :: rest)).map (rb_c ad)))
    (meth := meth) (below := below) ⟨C.1, C.2.1, C.2.2.1, C.2.2.2.1, C.2.2.2.2.1⟩ (hM l X C.2.2.2.2.2.2.2.1 A ad) (cwV (C := D) k C.2.2.2.2.1 hG rfl rfl rfl w6 hroom)
    ⟨rb_blind, va_recv hK1.1 (rb_one hat) hc (q0 := 0) rfl, fun U hU hW => ⟨rfl, fun q hq => C.2.2.2.2.2.2.2.2.2.2 q (Nat.le_trans hS.1 (by rw [← hU]; exact hq)), by rw [hU]; exact hP, hK1.warm hW, by rw [hU]; exact C.2.2.2.2.2.2.2.2.2.1.moved hW.alike hS.1 hS.2.1, hoa⟩⟩
    rfl (by rw [List.length_map]; exact hk9) (by show ls.size = nL; rw [hl.1, hlen]) (by show (As.reverse ++ (rbR r :: rest)).map (rb_c ad) = _; rw [List.map_append, List.map_reverse]; rfl)
    (lv_room (by rw [List.map_map, show ((fun v => Value.category v) ∘ rb_c ad) = rb_cat from funext fun v => rb_cat_c ad v]; exact hcat)) hd ⟨hc9, hs9⟩
  exact rb_after hrun hn hS hl hor.tl hv kk kx
theorem rb_callS (C : rb_C Φ own cc nL fr lo mc ms) {idx n k fr' lo' mc' ms' : Nat} {y : MethodName} {b : ByteArray} {ret : Option FieldType} {Post : Option rb_V → rb_G → Prop} {PX : String → rb_G → Prop}
    (F : rb_Sc own idx y b n ret k) (hM : ∀ l X, rb_M l X y (.code y b n ret) fr' lo' mc' ms' As G Post PX) (hd : decode cc pc = .ok (.invokestatic idx, 3)) (hst : st = As.reverse ++ rest) (hk9 : As.length = k) (hlen : Lv.length = nL) (hcat : (rest.map rb_cat).sum ≤ 8)
    (hroom : fr' + 1 ≤ fr ∧ 8 + (n + 11) + lo' ≤ lo) (hc9 : cells + mc' ≤ mc) (hs9 : slots + ms' ≤ ms) (kk : ∀ v G', Post v G' → rb_W Φ (cells + mc') (slots + ms') (pc + 3) Lv (v.toList ++ rest) G') (kx : ∀ E G', PX E G' → rb_Wx Φ (cells + mc') (slots + ms') pc Lv rest G' E) : rb_W Φ cells slots pc Lv st G := by
  obtain ⟨p, l, e, R, s, m, args, below, meth, c, Q, X, A, ad0, G0⟩ := Φ
  intro ad H locs ls hP hn hS hl ho hv
  subst hst
  have hK1 := C.2.2.2.2.2.2.2.2.1
  have hR := C.2.2.2.2.2.2.1
  subst hR
  obtain ⟨w1, w2, w4, w5, w6⟩ := F
  have hor : rb_okL G rest := fun v hv => ho v (List.mem_append_right _ hv)
  have hoa : rb_okL G As := fun v h => ho v (List.mem_append_left _ (List.mem_reverse.mpr h))
  have hrun := vx_runS (R := ({ frames := fr, cells := mc, slots := ms, locals := lo } : Room)) (n := k) (ret := ret) (maxL := n) (bytes := b) (As := As.map (rb_c ad)) (rest := rest.map (rb_c ad)) (cells := cells) (slots := slots) (locs := locs) (e := e) (p := p) (H := H) (g := F0 m pc ls ((As.reverse ++ rest).map (rb_c ad)))
    (meth := meth) (below := below) ⟨C.1, C.2.1, C.2.2.1, C.2.2.2.1, C.2.2.2.2.1⟩ (hM l X C.2.2.2.2.2.2.2.1 A ad) ⟨callB_of k C.2.2.2.2.1 (ts_code w5) rfl rfl rfl (C.2.2.2.2.1 _ w4) (C.2.2.2.2.1 _ w1) w6 hroom, C.2.2.2.2.1 _ w2⟩
    ⟨rb_blind, fun U hU hW => ⟨rfl, fun q hq => C.2.2.2.2.2.2.2.2.2.2 q (Nat.le_trans hS.1 (by rw [← hU]; exact hq)), by rw [hU]; exact hP, hK1.warm hW, by rw [hU]; exact C.2.2.2.2.2.2.2.2.2.1.moved hW.alike hS.1 hS.2.1, hoa⟩⟩
    rfl (by rw [List.length_map]; exact hk9) (by show ls.size = nL; rw [hl.1, hlen]) (by show (As.reverse ++ rest).map (rb_c ad) = _; rw [List.map_append, List.map_reverse])
    (lv_room (by rw [List.map_map, show ((fun v => Value.category v) ∘ rb_c ad) = rb_cat from funext fun v => rb_cat_c ad v]; exact hcat)) hd ⟨hc9, hs9⟩
  exact rb_after hrun hn hS hl hor hv kk kx
/-- a constructor -/
theorem rb_callI (C : rb_C Φ own cc nL fr lo mc ms) {r : rb_R} {idx n k fr' lo' mc' ms' : Nat} {y : MethodName} {b : ByteArray} {Post : Option rb_V → rb_G → Prop}
    (F : rb_Ic own idx y b n k) (hM : ∀ l X, rb_N l X y (.code y b n none) fr' lo' mc' ms' (rbR r :: As) G Post) (hd : decode cc pc = .ok (.invokespecial idx, 3)) (hst : st = As.reverse ++ (rbR r :: rest)) (hk9 : As.length = k) (hlen : Lv.length = nL) (hcat : (rest.map rb_cat).sum ≤ 8)
    (hroom : fr' + 1 ≤ fr ∧ 8 + (n + 11) + lo' ≤ lo) (hc9 : cells + mc' ≤ mc) (hs9 : slots + ms' ≤ ms) (kk : ∀ v G', Post v G' → rb_W Φ (cells + mc') (slots + ms') (pc + 3) Lv (v.toList ++ rest) G') : rb_W Φ cells slots pc Lv st G := by
  obtain ⟨p, l, e, R, s, m, args, below, meth, c, Q, X, A, ad0, G0⟩ := Φ
  intro ad H locs ls hP hn hS hl ho hv
  subst hst
  have hK1 := C.2.2.2.2.2.2.2.2.1
  have hR := C.2.2.2.2.2.2.1
  subst hR
  obtain ⟨w1, w2, w4, w5, w6, w7⟩ := F
  have hor : rb_okL G (rbR r :: rest) := fun v hv => ho v (List.mem_append_right _ hv)
  have hoa : rb_okL G (rbR r :: As) := fun v hv => (List.mem_cons.mp hv).elim (fun e => by rw [e]; exact hor.hd) (fun h => ho v (List.mem_append_left _ (List.mem_reverse.mpr h)))
  have hrun := va_runI (R := ({ frames := fr, cells := mc, slots := ms, locals := lo } : Room)) (n := k) (maxL := n) (bytes := b) (As := As.map (rb_c ad)) (rest := rest.map (rb_c ad)) (cells := cells) (slots := slots) (locs := locs) (b := ad r) (e := e) (p := p) (H := H) (g := F0 m pc ls ((As.reverse ++ (rbR r :: rest)).map (rb_c ad)))
    (meth := meth) (below := below) ⟨C.1, C.2.1, C.2.2.1, C.2.2.2.1, C.2.2.2.2.1⟩ (hM l X C.2.2.2.2.2.2.2.1 A ad) (cwI k C.2.2.2.2.1 (ts_code w5) rfl rfl rfl (C.2.2.2.2.1 _ w4) (C.2.2.2.2.1 _ w1) (C.2.2.2.2.1 _ w2) w6 w7 hroom)
    ⟨rb_blind, fun U hU hW => ⟨rfl, fun q hq => C.2.2.2.2.2.2.2.2.2.2 q (Nat.le_trans hS.1 (by rw [← hU]; exact hq)), by rw [hU]; exact hP, hK1.warm hW, by rw [hU]; exact C.2.2.2.2.2.2.2.2.2.1.moved hW.alike hS.1 hS.2.1, hoa⟩⟩
    rfl (by rw [List.length_map]; exact hk9) (by show ls.size = nL; rw [hl.1, hlen]) (by show (As.reverse ++ (rbR r :: rest)).map (rb_c ad) = _; rw [List.map_append, List.map_reverse]; rfl)
    (lv_room (by rw [List.map_map, show ((fun v => Value.category v) ∘ rb_c ad) = rb_cat from funext fun v => rb_cat_c ad v]; exact hcat)) hd ⟨hc9, hs9⟩
  exact rb_after (PX := fun _ _ => False) (rb_run_x hrun) hn hS hl hor.tl hv kk (fun E G' h => h.elim)
/-- a private constructor of a nest mate -/
theorem rb_callIN (C : rb_C Φ own cc nL fr lo mc ms) {r : rb_R} {idx n k fr' lo' mc' ms' : Nat} {host : String} {y : MethodName} {b : ByteArray} {Post : Option rb_V → rb_G → Prop}
    (hlk : ∀ X s, rb_K1 X s → va_Nw (.methodLinkNest own idx y host) s) (w2 : Cond.instanceMethod y ∈ TS) (w4 : Cond.initialized y.cls ∈ TS) (w5 : Cond.code y b n none ∈ TS) (w6 : y.name = "<init>") (w7 : y.cls ≠ "java/lang/invoke/MethodHandle" ∧ y.cls ≠ "java/lang/invoke/VarHandle" ∧ (parseMethodDescriptor y.desc).map (fun d => d.parameters.length) = some k)
    (hM : ∀ l X, rb_N l X y (.code y b n none) fr' lo' mc' ms' (rbR r :: As) G Post) (hd : decode cc pc = .ok (.invokespecial idx, 3)) (hst : st = As.reverse ++ (rbR r :: rest)) (hk9 : As.length = k) (hlen : Lv.length = nL) (hcat : (rest.map rb_cat).sum ≤ 8)
    (hroom : fr' + 1 ≤ fr ∧ 8 + (n + 11) + lo' ≤ lo) (hc9 : cells + mc' ≤ mc) (hs9 : slots + ms' ≤ ms) (kk : ∀ v G', Post v G' → rb_W Φ (cells + mc') (slots + ms') (pc + 3) Lv (v.toList ++ rest) G') : rb_W Φ cells slots pc Lv st G := by
  obtain ⟨p, l, e, R, s, m, args, below, meth, c, Q, X, A, ad0, G0⟩ := Φ
  intro ad H locs ls hP hn hS hl ho hv
  subst hst
  have hK1 := C.2.2.2.2.2.2.2.2.1
  have hR := C.2.2.2.2.2.2.1
  subst hR
  have hor : rb_okL G (rbR r :: rest) := fun v hv => ho v (List.mem_append_right _ hv)
  have hoa : rb_okL G (rbR r :: As) := fun v hv => (List.mem_cons.mp hv).elim (fun e => by rw [e]; exact hor.hd) (fun h => ho v (List.mem_append_left _ (List.mem_reverse.mpr h)))
  have hrun := va_runIN (R := ({ frames := fr, cells := mc, slots := ms, locals := lo } : Room)) (n := k) (maxL := n) (bytes := b) (As := As.map (rb_c ad)) (rest := rest.map (rb_c ad)) (cells := cells) (slots := slots) (locs := locs) (b := ad r) (e := e) (p := p) (H := H) (g := F0 m pc ls ((As.reverse ++ (rbR r :: rest)).map (rb_c ad)))
    (meth := meth) (below := below) ⟨C.1, C.2.1, C.2.2.1, C.2.2.2.1, C.2.2.2.2.1⟩ (hM l X C.2.2.2.2.2.2.2.1 A ad) ⟨va_cnB k C.2.2.2.2.1 (ts_code w5) rfl rfl rfl (hlk X s hK1) (C.2.2.2.2.1 _ w4) w7 hroom, w6, C.2.2.2.2.1 _ w2⟩
    ⟨rb_blind, fun U hU hW => ⟨rfl, fun q hq => C.2.2.2.2.2.2.2.2.2.2 q (Nat.le_trans hS.1 (by rw [← hU]; exact hq)), by rw [hU]; exact hP, hK1.warm hW, by rw [hU]; exact C.2.2.2.2.2.2.2.2.2.1.moved hW.alike hS.1 hS.2.1, hoa⟩⟩
    rfl (by rw [List.length_map]; exact hk9) (by show ls.size = nL; rw [hl.1, hlen]) (by show (As.reverse ++ (rbR r :: rest)).map (rb_c ad) = _; rw [List.map_append, List.map_reverse]; rfl)
    (lv_room (by rw [List.map_map, show ((fun v => Value.category v) ∘ rb_c ad) = rb_cat from funext fun v => rb_cat_c ad v]; exact hcat)) hd ⟨hc9, hs9⟩
  exact rb_after (PX := fun _ _ => False) (rb_run_x hrun) hn hS hl hor.tl hv kk (fun E G' h => h.elim)
/-- Object.<init> -/
theorem rb_objInit (C : rb_C Φ own cc nL fr lo mc ms) {r : rb_R} {idx : Nat} (w1 : Cond.methodLink own idx objectInit ∈ TS) (w2 : Cond.instanceMethod objectInit ∈ TS) (w3 : Cond.code objectInit ⟨#[0xb1]⟩ 1 none ∈ TS) (hd : decode cc pc = .ok (.invokespecial idx, 3)) (hlen : Lv.length = nL) (hcat : (st.map rb_cat).sum + 12 ≤ lo) (hfr : 1 ≤ fr) (kk : rb_W Φ cells slots (pc + 3) Lv st G) : rb_W Φ cells slots pc Lv (rbR r :: st) G := by
  obtain ⟨p, l, e, R, s, m, args, below, meth, c, Q, X, A, ad0, G0⟩ := Φ
  intro ad H locs ls hP hn hS hl ho hv
  have hR := C.2.2.2.2.2.2.1
  subst hR
  refine W.objInit C.1 C.2.1 C.2.2.2.1 (C.2.2.2.2.1 _ w1) (C.2.2.2.2.1 _ w2) (C.2.2.2.2.1 _ w3) (g := F0 m pc ls ((rbR r :: st).map (rb_c ad))) rfl (by show ls.size = _; rw [hl.1, hlen, C.2.2.1]) rfl hd hfr ?_ (kk ad H locs ls hP hn hS hl ho.tl hv)
  show 2 * 0 + ((st.map (rb_c ad)).map fun v => v.category).sum + 12 ≤ lo
  rw [List.map_map, show ((fun v => Value.category v) ∘ rb_c ad) = rb_cat from funext fun v => rb_cat_c ad v]
  omega
end
