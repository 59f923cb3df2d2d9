section
variable {Φ : rb_F} {own : String} {cc : ByteArray} {nL fr lo mc ms cells slots pc : Nat} {Lv Lv' : List (Option rb_V)} {st : List rb_V} {G : rb_G}
theorem rb_iconst (C : rb_C Φ own cc nL fr lo mc ms) {n : Int} {v : Int32} (hd : decode cc pc = .ok (.iconst n, 1)) (hc : Int32.ofInt n = v) (kk : rb_W Φ cells slots (pc + 1) Lv (rbI v :: st) G) : rb_W Φ cells slots pc Lv st G := by
  obtain ⟨p, l, e, R, s, m, args, below, meth, c, Q, X, A, ad0, G0⟩ := Φ
  intro ad H locs ls hP hn hS hl ho hv
  exact lv_iconst C.1 C.2.1 hd hc (kk ad H locs ls hP hn hS hl (ho.cons (rb_ok_i _ _)) hv)
theorem rb_bipush (C : rb_C Φ own cc nL fr lo mc ms) {n : Int} {v : Int32} (hd : decode cc pc = .ok (.bipush n, 2)) (hc : (Int8.ofInt n).toInt32 = v) (kk : rb_W Φ cells slots (pc + 2) Lv (rbI v :: st) G) : rb_W Φ cells slots pc Lv st G := by
  obtain ⟨p, l, e, R, s, m, args, below, meth, c, Q, X, A, ad0, G0⟩ := Φ
  intro ad H locs ls hP hn hS hl ho hv
  exact lv_bipush C.1 C.2.1 hd hc (kk ad H locs ls hP hn hS hl (ho.cons (rb_ok_i _ _)) hv)
theorem rb_sipush (C : rb_C Φ own cc nL fr lo mc ms) {n : Int} {v : Int32} (hd : decode cc pc = .ok (.sipush n, 3)) (hc : (Int16.ofInt n).toInt32 = v) (kk : rb_W Φ cells slots (pc + 3) Lv (rbI v :: st) G) : rb_W Φ cells slots pc Lv st G := by
  obtain ⟨p, l, e, R, s, m, args, below, meth, c, Q, X, A, ad0, G0⟩ := Φ
  intro ad H locs ls hP hn hS hl ho hv
  exact lv_sipush C.1 C.2.1 hd hc (kk ad H locs ls hP hn hS hl (ho.cons (rb_ok_i _ _)) hv)
theorem rb_lconst (C : rb_C Φ own cc nL fr lo mc ms) {n : Fin 2} {v : Int64} (hd : decode cc pc = .ok (.lconst n, 1)) (hc : Int64.ofNat (n : Nat) = v) (kk : rb_W Φ cells slots (pc + 1) Lv (rbL v :: st) G) : rb_W Φ cells slots pc Lv st G := by
  obtain ⟨p, l, e, R, s, m, args, below, meth, c, Q, X, A, ad0, G0⟩ := Φ
  intro ad H locs ls hP hn hS hl ho hv
  exact lv_lconst C.1 C.2.1 hd hc (kk ad H locs ls hP hn hS hl (ho.cons (rb_ok_l _ _)) hv)
theorem rb_null (C : rb_C Φ own cc nL fr lo mc ms) (hd : decode cc pc = .ok (.aconst_null, 1)) (kk : rb_W Φ cells slots (pc + 1) Lv (rbO none :: st) G) : rb_W Φ cells slots pc Lv st G := by
  obtain ⟨p, l, e, R, s, m, args, below, meth, c, Q, X, A, ad0, G0⟩ := Φ
  intro ad H locs ls hP hn hS hl ho hv
  exact lv_null C.1 C.2.1 hd (kk ad H locs ls hP hn hS hl (ho.cons (rb_ok_n _)) hv)
theorem rb_iload_n (C : rb_C Φ own cc nL fr lo mc ms) {k : Fin 4} {x : Int32} (hd : decode cc pc = .ok (.iload_n k, 1)) (hi : Lv[(k : Nat)]? = some (some (rbI x))) (kk : rb_W Φ cells slots (pc + 1) Lv (rbI x :: st) G) : rb_W Φ cells slots pc Lv st G := by
  obtain ⟨p, l, e, R, s, m, args, below, meth, c, Q, X, A, ad0, G0⟩ := Φ
  intro ad H locs ls hP hn hS hl ho hv
  exact lv_iload_n C.1 C.2.1 hd rfl (hl.get hi) (kk ad H locs ls hP hn hS hl (ho.cons (rb_ok_i _ _)) hv)
theorem rb_iload (C : rb_C Φ own cc nL fr lo mc ms) {i : Nat} {x : Int32} (hd : decode cc pc = .ok (.iload i, 2)) (hi : Lv[i]? = some (some (rbI x))) (kk : rb_W Φ cells slots (pc + 2) Lv (rbI x :: st) G) : rb_W Φ cells slots pc Lv st G := by
  obtain ⟨p, l, e, R, s, m, args, below, meth, c, Q, X, A, ad0, G0⟩ := Φ
  intro ad H locs ls hP hn hS hl ho hv
  exact lv_iload C.1 C.2.1 hd (hl.get hi) (kk ad H locs ls hP hn hS hl (ho.cons (rb_ok_i _ _)) hv)
theorem rb_aload_n (C : rb_C Φ own cc nL fr lo mc ms) {k : Fin 4} {o : Option rb_R} (hd : decode cc pc = .ok (.aload_n k, 1)) (hi : Lv[(k : Nat)]? = some (some (rbO o))) (kk : rb_W Φ cells slots (pc + 1) Lv (rbO o :: st) G) : rb_W Φ cells slots pc Lv st G := by
  obtain ⟨p, l, e, R, s, m, args, below, meth, c, Q, X, A, ad0, G0⟩ := Φ
  intro ad H locs ls hP hn hS hl ho hv
  have hg := hl.get hi
  have hk := kk ad H locs ls hP hn hS hl (ho.cons (hv _ (List.mem_of_getElem? hi))) hv
  cases o with
  | none => exact lv_aload_nN C.1 C.2.1 hd rfl hg hk
  | some r => exact lv_aload_n C.1 C.2.1 hd rfl hg hk
theorem rb_aload (C : rb_C Φ own cc nL fr lo mc ms) {i : Nat} {o : Option rb_R} (hd : decode cc pc = .ok (.aload i, 2)) (hi : Lv[i]? = some (some (rbO o))) (kk : rb_W Φ cells slots (pc + 2) Lv (rbO o :: st) G) : rb_W Φ cells slots pc Lv st G := by
  obtain ⟨p, l, e, R, s, m, args, below, meth, c, Q, X, A, ad0, G0⟩ := Φ
  intro ad H locs ls hP hn hS hl ho hv
  have hg := hl.get hi
  have hk := kk ad H locs ls hP hn hS hl (ho.cons (hv _ (List.mem_of_getElem? hi))) hv
  cases o with
  | none => exact lv_aloadN C.1 C.2.1 hd hg hk
  | some r => exact lv_aload C.1 C.2.1 hd hg hk
theorem rb_okO_set {v : rb_V} {i : Nat} (h : rb_okO G Lv) (hv : rb_ok G v) (hL : Lv.set i (some v) = Lv') : rb_okO G Lv' := by
  subst hL
  intro w hw
  rcases List.mem_or_eq_of_mem_set hw with h1 | h1
  · exact h w h1
  · cases h1; exact hv
theorem rb_istore_n (C : rb_C Φ own cc nL fr lo mc ms) {k : Fin 4} {x : Int32} (hd : decode cc pc = .ok (.istore_n k, 1)) (hi : (k : Nat) < Lv.length) (h1 : rb_c1 Lv = true) (hL : Lv.set (k : Nat) (some (rbI x)) = Lv') (kk : rb_W Φ cells slots (pc + 1) Lv' st G) : rb_W Φ cells slots pc Lv (rbI x :: st) G := by
  obtain ⟨p, l, e, R, s, m, args, below, meth, c, Q, X, A, ad0, G0⟩ := Φ
  intro ad H locs ls hP hn hS hl ho hv
  exact lv_istore_n C.1 C.2.1 hd rfl hl hi rfl (fun ls' hl' => kk ad H locs ls' hP hn hS (hL ▸ rb_ls.store hi hl' (rb_c1_use h1)) ho.tl (rb_okO_set hv (rb_ok_i _ _) hL))
theorem rb_istore (C : rb_C Φ own cc nL fr lo mc ms) {i : Nat} {x : Int32} (hd : decode cc pc = .ok (.istore i, 2)) (hi : i < Lv.length) (h1 : rb_c1 Lv = true) (hL : Lv.set i (some (rbI x)) = Lv') (kk : rb_W Φ cells slots (pc + 2) Lv' st G) : rb_W Φ cells slots pc Lv (rbI x :: st) G := by
  obtain ⟨p, l, e, R, s, m, args, below, meth, c, Q, X, A, ad0, G0⟩ := Φ
  intro ad H locs ls hP hn hS hl ho hv
  exact lv_istore C.1 C.2.1 hd hl hi rfl (fun ls' hl' => kk ad H locs ls' hP hn hS (hL ▸ rb_ls.store hi hl' (rb_c1_use h1)) ho.tl (rb_okO_set hv (rb_ok_i _ _) hL))
theorem rb_astore_n (C : rb_C Φ own cc nL fr lo mc ms) {k : Fin 4} {o : Option rb_R} (hd : decode cc pc = .ok (.astore_n k, 1)) (hi : (k : Nat) < Lv.length) (h1 : rb_c1 Lv = true) (hL : Lv.set (k : Nat) (some (rbO o)) = Lv') (kk : rb_W Φ cells slots (pc + 1) Lv' st G) : rb_W Φ cells slots pc Lv (rbO o :: st) G := by
  obtain ⟨p, l, e, R, s, m, args, below, meth, c, Q, X, A, ad0, G0⟩ := Φ
  intro ad H locs ls hP hn hS hl ho hv
  cases o with
  | none => exact lv_astore_nN C.1 C.2.1 hd rfl hl hi rfl (fun ls' hl' => kk ad H locs ls' hP hn hS (hL ▸ rb_ls.store (v := rbO none) hi hl' (rb_c1_use h1)) ho.tl (rb_okO_set hv ho.hd hL))
  | some r => exact lv_astore_n C.1 C.2.1 hd rfl hl hi rfl (fun ls' hl' => kk ad H locs ls' hP hn hS (hL ▸ rb_ls.store (v := rbO (some r)) hi hl' (rb_c1_use h1)) ho.tl (rb_okO_set hv ho.hd hL))
theorem rb_astore (C : rb_C Φ own cc nL fr lo mc ms) {i : Nat} {o : Option rb_R} (hd : decode cc pc = .ok (.astore i, 2)) (hi : i < Lv.length) (h1 : rb_c1 Lv = true) (hL : Lv.set i (some (rbO o)) = Lv') (kk : rb_W Φ cells slots (pc + 2) Lv' st G) : rb_W Φ cells slots pc Lv (rbO o :: st) G := by
  obtain ⟨p, l, e, R, s, m, args, below, meth, c, Q, X, A, ad0, G0⟩ := Φ
  intro ad H locs ls hP hn hS hl ho hv
  cases o with
  | none => exact lv_astoreN C.1 C.2.1 hd hl hi rfl (fun ls' hl' => kk ad H locs ls' hP hn hS (hL ▸ rb_ls.store (v := rbO none) hi hl' (rb_c1_use h1)) ho.tl (rb_okO_set hv ho.hd hL))
  | some r => exact lv_astore C.1 C.2.1 hd hl hi rfl (fun ls' hl' => kk ad H locs ls' hP hn hS (hL ▸ rb_ls.store (v := rbO (some r)) hi hl' (rb_c1_use h1)) ho.tl (rb_okO_set hv ho.hd hL))
theorem rb_iinc (C : rb_C Φ own cc nL fr lo mc ms) {i : Nat} {n : Int} {x v : Int32} (hd : decode cc pc = .ok (.iinc i n, 3)) (hg : Lv[i]? = some (some (rbI x))) (hx : x + Int32.ofInt n = v) (h1 : rb_c1 Lv = true) (hL : Lv.set i (some (rbI v)) = Lv') (kk : rb_W Φ cells slots (pc + 3) Lv' st G) : rb_W Φ cells slots pc Lv st G := by
  obtain ⟨p, l, e, R, s, m, args, below, meth, c, Q, X, A, ad0, G0⟩ := Φ
  intro ad H locs ls hP hn hS hl ho hv
  have hi : i < Lv.length := (List.getElem?_eq_some_iff.mp hg).1
  obtain ⟨j, hj⟩ : ∃ j : Nat, (rb_al ad 0 Lv)[j]? = some (i, .int x) := List.getElem?_of_mem ((rb_al_mem ad Lv 0 _).mpr ⟨i, rbI x, hg, by rw [Nat.zero_add]; rfl⟩)
  exact lv_iinc C.1 C.2.1 hd hl hj hx hi rfl (fun ls' hl' => kk ad H locs ls' hP hn hS (hL ▸ rb_ls.store (v := rbI v) hi hl' (rb_c1_use h1)) ho (rb_okO_set hv (rb_ok_i _ _) hL))
theorem rb_iadd (C : rb_C Φ own cc nL fr lo mc ms) {x y : Int32} (hd : decode cc pc = .ok (.iadd, 1)) (kk : rb_W Φ cells slots (pc + 1) Lv (rbI (x + y) :: st) G) : rb_W Φ cells slots pc Lv (rbI y :: rbI x :: st) G := by
  obtain ⟨p, l, e, R, s, m, args, below, meth, c, Q, X, A, ad0, G0⟩ := Φ
  intro ad H locs ls hP hn hS hl ho hv
  exact lv_iadd C.1 C.2.1 hd (kk ad H locs ls hP hn hS hl (ho.tl.tl.cons (rb_ok_i _ _)) hv)
theorem rb_isub (C : rb_C Φ own cc nL fr lo mc ms) {x y : Int32} (hd : decode cc pc = .ok (.isub, 1)) (kk : rb_W Φ cells slots (pc + 1) Lv (rbI (x - y) :: st) G) : rb_W Φ cells slots pc Lv (rbI y :: rbI x :: st) G := by
  obtain ⟨p, l, e, R, s, m, args, below, meth, c, Q, X, A, ad0, G0⟩ := Φ
  intro ad H locs ls hP hn hS hl ho hv
  exact lv_isub C.1 C.2.1 hd (kk ad H locs ls hP hn hS hl (ho.tl.tl.cons (rb_ok_i _ _)) hv)
theorem rb_imul (C : rb_C Φ own cc nL fr lo mc ms) {x y : Int32} (hd : decode cc pc = .ok (.imul, 1)) (kk : rb_W Φ cells slots (pc + 1) Lv (rbI (x * y) :: st) G) : rb_W Φ cells slots pc Lv (rbI y :: rbI x :: st) G := by
  obtain ⟨p, l, e, R, s, m, args, below, meth, c, Q, X, A, ad0, G0⟩ := Φ
  intro ad H locs ls hP hn hS hl ho hv
  exact lv_imul C.1 C.2.1 hd (kk ad H locs ls hP hn hS hl (ho.tl.tl.cons (rb_ok_i _ _)) hv)
theorem rb_iand (C : rb_C Φ own cc nL fr lo mc ms) {x y : Int32} (hd : decode cc pc = .ok (.iand, 1)) (kk : rb_W Φ cells slots (pc + 1) Lv (rbI (x &&& y) :: st) G) : rb_W Φ cells slots pc Lv (rbI y :: rbI x :: st) G := by
  obtain ⟨p, l, e, R, s, m, args, below, meth, c, Q, X, A, ad0, G0⟩ := Φ
  intro ad H locs ls hP hn hS hl ho hv
  exact lv_iand C.1 C.2.1 hd (kk ad H locs ls hP hn hS hl (ho.tl.tl.cons (rb_ok_i _ _)) hv)
theorem rb_ishr (C : rb_C Φ own cc nL fr lo mc ms) {x y : Int32} (hd : decode cc pc = .ok (.ishr, 1)) (kk : rb_W Φ cells slots (pc + 1) Lv (rbI (x >>> (y &&& 31)) :: st) G) : rb_W Φ cells slots pc Lv (rbI y :: rbI x :: st) G := by
  obtain ⟨p, l, e, R, s, m, args, below, meth, c, Q, X, A, ad0, G0⟩ := Φ
  intro ad H locs ls hP hn hS hl ho hv
  exact lv_ishr C.1 C.2.1 hd (kk ad H locs ls hP hn hS hl (ho.tl.tl.cons (rb_ok_i _ _)) hv)
theorem rb_idiv (C : rb_C Φ own cc nL fr lo mc ms) {x y : Int32} (hd : decode cc pc = .ok (.idiv, 1)) (hne : ¬ y = 0) (kk : rb_W Φ cells slots (pc + 1) Lv (rbI (x / y) :: st) G) : rb_W Φ cells slots pc Lv (rbI y :: rbI x :: st) G := by
  obtain ⟨p, l, e, R, s, m, args, below, meth, c, Q, X, A, ad0, G0⟩ := Φ
  intro ad H locs ls hP hn hS hl ho hv
  exact lv_idiv C.1 C.2.1 hd hne (kk ad H locs ls hP hn hS hl (ho.tl.tl.cons (rb_ok_i _ _)) hv)
theorem rb_irem (C : rb_C Φ own cc nL fr lo mc ms) {x y : Int32} (hd : decode cc pc = .ok (.irem, 1)) (hne : ¬ y = 0) (kk : rb_W Φ cells slots (pc + 1) Lv (rbI (x - x / y * y) :: st) G) : rb_W Φ cells slots pc Lv (rbI y :: rbI x :: st) G := by
  obtain ⟨p, l, e, R, s, m, args, below, meth, c, Q, X, A, ad0, G0⟩ := Φ
  intro ad H locs ls hP hn hS hl ho hv
  exact lv_irem C.1 C.2.1 hd hne (kk ad H locs ls hP hn hS hl (ho.tl.tl.cons (rb_ok_i _ _)) hv)
theorem rb_lmul (C : rb_C Φ own cc nL fr lo mc ms) {x y : Int64} (hd : decode cc pc = .ok (.lmul, 1)) (kk : rb_W Φ cells slots (pc + 1) Lv (rbL (x * y) :: st) G) : rb_W Φ cells slots pc Lv (rbL y :: rbL x :: st) G := by
  obtain ⟨p, l, e, R, s, m, args, below, meth, c, Q, X, A, ad0, G0⟩ := Φ
  intro ad H locs ls hP hn hS hl ho hv
  exact lv_lmul C.1 C.2.1 hd (kk ad H locs ls hP hn hS hl (ho.tl.tl.cons (rb_ok_l _ _)) hv)
theorem rb_lcmp (C : rb_C Φ own cc nL fr lo mc ms) {x y : Int64} (hd : decode cc pc = .ok (.lcmp, 1)) (kk : rb_W Φ cells slots (pc + 1) Lv (rbI (lg_cmp x y) :: st) G) : rb_W Φ cells slots pc Lv (rbL y :: rbL x :: st) G := by
  obtain ⟨p, l, e, R, s, m, args, below, meth, c, Q, X, A, ad0, G0⟩ := Φ
  intro ad H locs ls hP hn hS hl ho hv
  exact W.lcmp C.1 C.2.1 hd (kk ad H locs ls hP hn hS hl (ho.tl.tl.cons (rb_ok_i _ _)) hv)
theorem rb_i2l (C : rb_C Φ own cc nL fr lo mc ms) {x : Int32} (hd : decode cc pc = .ok (.i2l, 1)) (kk : rb_W Φ cells slots (pc + 1) Lv (rbL x.toInt64 :: st) G) : rb_W Φ cells slots pc Lv (rbI x :: st) G := by
  obtain ⟨p, l, e, R, s, m, args, below, meth, c, Q, X, A, ad0, G0⟩ := Φ
  intro ad H locs ls hP hn hS hl ho hv
  exact lv_i2l C.1 C.2.1 hd rfl (kk ad H locs ls hP hn hS hl (ho.tl.cons (rb_ok_l _ _)) hv)
theorem rb_dup (C : rb_C Φ own cc nL fr lo mc ms) {v : rb_V} (hd : decode cc pc = .ok (.dup, 1)) (hc : rb_cat v = 1) (kk : rb_W Φ cells slots (pc + 1) Lv (v :: v :: st) G) : rb_W Φ cells slots pc Lv (v :: st) G := by
  obtain ⟨p, l, e, R, s, m, args, below, meth, c, Q, X, A, ad0, G0⟩ := Φ
  intro ad H locs ls hP hn hS hl ho hv
  exact lv_dup C.1 C.2.1 hd (by rw [rb_cat_c, hc]) (kk ad H locs ls hP hn hS hl (ho.cons ho.hd) hv)
theorem rb_pop (C : rb_C Φ own cc nL fr lo mc ms) {v : rb_V} (hd : decode cc pc = .ok (.pop, 1)) (hc : rb_cat v = 1) (kk : rb_W Φ cells slots (pc + 1) Lv st G) : rb_W Φ cells slots pc Lv (v :: st) G := by
  obtain ⟨p, l, e, R, s, m, args, below, meth, c, Q, X, A, ad0, G0⟩ := Φ
  intro ad H locs ls hP hn hS hl ho hv
  exact lv_pop C.1 C.2.1 hd (by rw [rb_cat_c, hc]) (kk ad H locs ls hP hn hS hl ho.tl hv)
theorem rb_dup_x1 (C : rb_C Φ own cc nL fr lo mc ms) {v w : rb_V} (hd : decode cc pc = .ok (.dup_x1, 1)) (hc : rb_cat v = 1) (hw : rb_cat w = 1) (kk : rb_W Φ cells slots (pc + 1) Lv (v :: w :: v :: st) G) : rb_W Φ cells slots pc Lv (v :: w :: st) G := by
  obtain ⟨p, l, e, R, s, m, args, below, meth, c, Q, X, A, ad0, G0⟩ := Φ
  intro ad H locs ls hP hn hS hl ho hv
  exact lv_dup_x1 C.1 C.2.1 hd (by rw [rb_cat_c, hc]) (by rw [rb_cat_c, hw]) (kk ad H locs ls hP hn hS hl (((ho.tl.tl.cons ho.hd).cons ho.tl.hd).cons ho.hd) hv)
theorem rb_dup2 (C : rb_C Φ own cc nL fr lo mc ms) {v w : rb_V} (hd : decode cc pc = .ok (.dup2, 1)) (hc : rb_cat v = 1) (hw : rb_cat w = 1) (kk : rb_W Φ cells slots (pc + 1) Lv (v :: w :: v :: w :: st) G) : rb_W Φ cells slots pc Lv (v :: w :: st) G := by
  obtain ⟨p, l, e, R, s, m, args, below, meth, c, Q, X, A, ad0, G0⟩ := Φ
  intro ad H locs ls hP hn hS hl ho hv
  exact lv_dup2_11 C.1 C.2.1 hd (by rw [rb_cat_c, hc]) (by rw [rb_cat_c, hw]) (kk ad H locs ls hP hn hS hl ((ho.cons ho.tl.hd).cons ho.hd) hv)
theorem rb_if_eq (C : rb_C Φ own cc nL fr lo mc ms) {x : Int32} {off : Int} (tgt : Nat) (hd : decode cc pc = .ok (.ifCond .eq off, 3)) (ht : (pc : Int) + off = (tgt : Int)) (kt : x = 0 → rb_W Φ cells slots tgt Lv st G) (kf : ¬ x = 0 → rb_W Φ cells slots (pc + 3) Lv st G) : rb_W Φ cells slots pc Lv (rbI x :: st) G := by
  obtain ⟨p, l, e, R, s, m, args, below, meth, c, Q, X, A, ad0, G0⟩ := Φ
  intro ad H locs ls hP hn hS hl ho hv
  exact lv_if_eq C.1 C.2.1 hd ht (fun q => kt q ad H locs ls hP hn hS hl ho.tl hv) (fun q => kf q ad H locs ls hP hn hS hl ho.tl hv)
theorem rb_icmp_eq (C : rb_C Φ own cc nL fr lo mc ms) {x y : Int32} {off : Int} (tgt : Nat) (hd : decode cc pc = .ok (.if_icmp .eq off, 3)) (ht : (pc : Int) + off = (tgt : Int)) (kt : x = y → rb_W Φ cells slots tgt Lv st G) (kf : ¬ x = y → rb_W Φ cells slots (pc + 3) Lv st G) : rb_W Φ cells slots pc Lv (rbI y :: rbI x :: st) G := by
  obtain ⟨p, l, e, R, s, m, args, below, meth, c, Q, X, A, ad0, G0⟩ := Φ
  intro ad H locs ls hP hn hS hl ho hv
  exact lv_icmp_eq C.1 C.2.1 hd ht (fun q => kt q ad H locs ls hP hn hS hl ho.tl.tl hv) (fun q => kf q ad H locs ls hP hn hS hl ho.tl.tl hv)
theorem rb_if_ne (C : rb_C Φ own cc nL fr lo mc ms) {x : Int32} {off : Int} (tgt : Nat) (hd : decode cc pc = .ok (.ifCond .ne off, 3)) (ht : (pc : Int) + off = (tgt : Int)) (kt : ¬ x = 0 → rb_W Φ cells slots tgt Lv st G) (kf : x = 0 → rb_W Φ cells slots (pc + 3) Lv st G) : rb_W Φ cells slots pc Lv (rbI x :: st) G := by
  obtain ⟨p, l, e, R, s, m, args, below, meth, c, Q, X, A, ad0, G0⟩ := Φ
  intro ad H locs ls hP hn hS hl ho hv
  exact lv_if_ne C.1 C.2.1 hd ht (fun q => kt q ad H locs ls hP hn hS hl ho.tl hv) (fun q => kf q ad H locs ls hP hn hS hl ho.tl hv)
theorem rb_icmp_ne (C : rb_C Φ own cc nL fr lo mc ms) {x y : Int32} {off : Int} (tgt : Nat) (hd : decode cc pc = .ok (.if_icmp .ne off, 3)) (ht : (pc : Int) + off = (tgt : Int)) (kt : ¬ x = y → rb_W Φ cells slots tgt Lv st G) (kf : x = y → rb_W Φ cells slots (pc + 3) Lv st G) : rb_W Φ cells slots pc Lv (rbI y :: rbI x :: st) G := by
  obtain ⟨p, l, e, R, s, m, args, below, meth, c, Q, X, A, ad0, G0⟩ := Φ
  intro ad H locs ls hP hn hS hl ho hv
  exact lv_icmp_ne C.1 C.2.1 hd ht (fun q => kt q ad H locs ls hP hn hS hl ho.tl.tl hv) (fun q => kf q ad H locs ls hP hn hS hl ho.tl.tl hv)
theorem rb_if_lt (C : rb_C Φ own cc nL fr lo mc ms) {x : Int32} {off : Int} (tgt : Nat) (hd : decode cc pc = .ok (.ifCond .lt off, 3)) (ht : (pc : Int) + off = (tgt : Int)) (kt : x < 0 → rb_W Φ cells slots tgt Lv st G) (kf : ¬ x < 0 → rb_W Φ cells slots (pc + 3) Lv st G) : rb_W Φ cells slots pc Lv (rbI x :: st) G := by
  obtain ⟨p, l, e, R, s, m, args, below, meth, c, Q, X, A, ad0, G0⟩ := Φ
  intro ad H locs ls hP hn hS hl ho hv
  exact lv_if_lt C.1 C.2.1 hd ht (fun q => kt q ad H locs ls hP hn hS hl ho.tl hv) (fun q => kf q ad H locs ls hP hn hS hl ho.tl hv)
theorem rb_icmp_lt (C : rb_C Φ own cc nL fr lo mc ms) {x y : Int32} {off : Int} (tgt : Nat) (hd : decode cc pc = .ok (.if_icmp .lt off, 3)) (ht : (pc : Int) + off = (tgt : Int)) (kt : x < y → rb_W Φ cells slots tgt Lv st G) (kf : ¬ x < y → rb_W Φ cells slots (pc + 3) Lv st G) : rb_W Φ cells slots pc Lv (rbI y :: rbI x :: st) G := by
  obtain ⟨p, l, e, R, s, m, args, below, meth, c, Q, X, A, ad0, G0⟩ := Φ
  intro ad H locs ls hP hn hS hl ho hv
  exact lv_icmp_lt C.1 C.2.1 hd ht (fun q => kt q ad H locs ls hP hn hS hl ho.tl.tl hv) (fun q => kf q ad H locs ls hP hn hS hl ho.tl.tl hv)
theorem rb_if_ge (C : rb_C Φ own cc nL fr lo mc ms) {x : Int32} {off : Int} (tgt : Nat) (hd : decode cc pc = .ok (.ifCond .ge off, 3)) (ht : (pc : Int) + off = (tgt : Int)) (kt : 0 ≤ x → rb_W Φ cells slots tgt Lv st G) (kf : ¬ 0 ≤ x → rb_W Φ cells slots (pc + 3) Lv st G) : rb_W Φ cells slots pc Lv (rbI x :: st) G := by
  obtain ⟨p, l, e, R, s, m, args, below, meth, c, Q, X, A, ad0, G0⟩ := Φ
  intro ad H locs ls hP hn hS hl ho hv
  exact lv_if_ge C.1 C.2.1 hd ht (fun q => kt q ad H locs ls hP hn hS hl ho.tl hv) (fun q => kf q ad H locs ls hP hn hS hl ho.tl hv)
theorem rb_icmp_ge (C : rb_C Φ own cc nL fr lo mc ms) {x y : Int32} {off : Int} (tgt : Nat) (hd : decode cc pc = .ok (.if_icmp .ge off, 3)) (ht : (pc : Int) + off = (tgt : Int)) (kt : y ≤ x → rb_W Φ cells slots tgt Lv st G) (kf : ¬ y ≤ x → rb_W Φ cells slots (pc + 3) Lv st G) : rb_W Φ cells slots pc Lv (rbI y :: rbI x :: st) G := by
  obtain ⟨p, l, e, R, s, m, args, below, meth, c, Q, X, A, ad0, G0⟩ := Φ
  intro ad H locs ls hP hn hS hl ho hv
  exact lv_icmp_ge C.1 C.2.1 hd ht (fun q => kt q ad H locs ls hP hn hS hl ho.tl.tl hv) (fun q => kf q ad H locs ls hP hn hS hl ho.tl.tl hv)
theorem rb_if_gt (C : rb_C Φ own cc nL fr lo mc ms) {x : Int32} {off : Int} (tgt : Nat) (hd : decode cc pc = .ok (.ifCond .gt off, 3)) (ht : (pc : Int) + off = (tgt : Int)) (kt : 0 < x → rb_W Φ cells slots tgt Lv st G) (kf : ¬ 0 < x → rb_W Φ cells slots (pc + 3) Lv st G) : rb_W Φ cells slots pc Lv (rbI x :: st) G := by
  obtain ⟨p, l, e, R, s, m, args, below, meth, c, Q, X, A, ad0, G0⟩ := Φ
  intro ad H locs ls hP hn hS hl ho hv
  exact lv_if_gt C.1 C.2.1 hd ht (fun q => kt q ad H locs ls hP hn hS hl ho.tl hv) (fun q => kf q ad H locs ls hP hn hS hl ho.tl hv)
theorem rb_icmp_gt (C : rb_C Φ own cc nL fr lo mc ms) {x y : Int32} {off : Int} (tgt : Nat) (hd : decode cc pc = .ok (.if_icmp .gt off, 3)) (ht : (pc : Int) + off = (tgt : Int)) (kt : y < x → rb_W Φ cells slots tgt Lv st G) (kf : ¬ y < x → rb_W Φ cells slots (pc + 3) Lv st G) : rb_W Φ cells slots pc Lv (rbI y :: rbI x :: st) G := by
  obtain ⟨p, l, e, R, s, m, args, below, meth, c, Q, X, A, ad0, G0⟩ := Φ
  intro ad H locs ls hP hn hS hl ho hv
  exact lv_icmp_gt C.1 C.2.1 hd ht (fun q => kt q ad H locs ls hP hn hS hl ho.tl.tl hv) (fun q => kf q ad H locs ls hP hn hS hl ho.tl.tl hv)
theorem rb_if_le (C : rb_C Φ own cc nL fr lo mc ms) {x : Int32} {off : Int} (tgt : Nat) (hd : decode cc pc = .ok (.ifCond .le off, 3)) (ht : (pc : Int) + off = (tgt : Int)) (kt : x ≤ 0 → rb_W Φ cells slots tgt Lv st G) (kf : ¬ x ≤ 0 → rb_W Φ cells slots (pc + 3) Lv st G) : rb_W Φ cells slots pc Lv (rbI x :: st) G := by
  obtain ⟨p, l, e, R, s, m, args, below, meth, c, Q, X, A, ad0, G0⟩ := Φ
  intro ad H locs ls hP hn hS hl ho hv
  exact lv_if_le C.1 C.2.1 hd ht (fun q => kt q ad H locs ls hP hn hS hl ho.tl hv) (fun q => kf q ad H locs ls hP hn hS hl ho.tl hv)
theorem rb_icmp_le (C : rb_C Φ own cc nL fr lo mc ms) {x y : Int32} {off : Int} (tgt : Nat) (hd : decode cc pc = .ok (.if_icmp .le off, 3)) (ht : (pc : Int) + off = (tgt : Int)) (kt : x ≤ y → rb_W Φ cells slots tgt Lv st G) (kf : ¬ x ≤ y → rb_W Φ cells slots (pc + 3) Lv st G) : rb_W Φ cells slots pc Lv (rbI y :: rbI x :: st) G := by
  obtain ⟨p, l, e, R, s, m, args, below, meth, c, Q, X, A, ad0, G0⟩ := Φ
  intro ad H locs ls hP hn hS hl ho hv
  exact lv_icmp_le C.1 C.2.1 hd ht (fun q => kt q ad H locs ls hP hn hS hl ho.tl.tl hv) (fun q => kf q ad H locs ls hP hn hS hl ho.tl.tl hv)
theorem rb_goto (C : rb_C Φ own cc nL fr lo mc ms) {off : Int} (tgt : Nat) (hd : decode cc pc = .ok (.goto off, 3)) (ht : (pc : Int) + off = (tgt : Int)) (kk : rb_W Φ cells slots tgt Lv st G) : rb_W Φ cells slots pc Lv st G := by
  obtain ⟨p, l, e, R, s, m, args, below, meth, c, Q, X, A, ad0, G0⟩ := Φ
  intro ad H locs ls hP hn hS hl ho hv
  exact lv_goto C.1 C.2.1 hd ht (kk ad H locs ls hP hn hS hl ho hv)
theorem rb_ifnonnull (C : rb_C Φ own cc nL fr lo mc ms) {o : Option rb_R} {off : Int} (tgt : Nat) (hd : decode cc pc = .ok (.ifnonnull off, 3)) (ht : (pc : Int) + off = (tgt : Int)) (kt : ∀ r, o = some r → rb_W Φ cells slots tgt Lv st G) (kf : o = none → rb_W Φ cells slots (pc + 3) Lv st G) : rb_W Φ cells slots pc Lv (rbO o :: st) G := by
  obtain ⟨p, l, e, R, s, m, args, below, meth, c, Q, X, A, ad0, G0⟩ := Φ
  intro ad H locs ls hP hn hS hl ho hv
  cases o with
  | none => exact lv_ifnonnullN C.1 C.2.1 hd (kf rfl ad H locs ls hP hn hS hl ho.tl hv)
  | some r => exact lv_ifnonnull C.1 C.2.1 hd ht (kt r rfl ad H locs ls hP hn hS hl ho.tl hv)
theorem rb_ldc (C : rb_C Φ own cc nL fr lo mc ms) {index : Nat} {v : Int32} (hd : decode cc pc = .ok (.ldc index, 2)) (hw : Cond.constant own index v ∈ TS) (kk : rb_W Φ cells slots (pc + 2) Lv (rbI v :: st) G) : rb_W Φ cells slots pc Lv st G := by
  obtain ⟨p, l, e, R, s, m, args, below, meth, c, Q, X, A, ad0, G0⟩ := Φ
  intro ad H locs ls hP hn hS hl ho hv
  exact lv_ldc C.1 C.2.1 C.2.2.2.1 (C.2.2.2.2.1 _ hw) hd (kk ad H locs ls hP hn hS hl (ho.cons (rb_ok_i _ _)) hv)
theorem rb_ldcw (C : rb_C Φ own cc nL fr lo mc ms) {index : Nat} {v : Int32} (hd : decode cc pc = .ok (.ldc_w index, 3)) (hw : Cond.constant own index v ∈ TS) (kk : rb_W Φ cells slots (pc + 3) Lv (rbI v :: st) G) : rb_W Φ cells slots pc Lv st G := by
  obtain ⟨p, l, e, R, s, m, args, below, meth, c, Q, X, A, ad0, G0⟩ := Φ
  intro ad H locs ls hP hn hS hl ho hv
  exact lv_ldcw C.1 C.2.1 C.2.2.2.1 (C.2.2.2.2.1 _ hw) hd (kk ad H locs ls hP hn hS hl (ho.cons (rb_ok_i _ _)) hv)
theorem rb_ldc2 (C : rb_C Φ own cc nL fr lo mc ms) {index : Nat} {v : Int64} (hd : decode cc pc = .ok (.ldc2_w index, 3)) (hw : Cond.constantLong own index v ∈ TS) (kk : rb_W Φ cells slots (pc + 3) Lv (rbL v :: st) G) : rb_W Φ cells slots pc Lv st G := by
  obtain ⟨p, l, e, R, s, m, args, below, meth, c, Q, X, A, ad0, G0⟩ := Φ
  intro ad H locs ls hP hn hS hl ho hv
  exact lv_ldc2 C.1 C.2.1 C.2.2.2.1 (C.2.2.2.2.1 _ hw) hd (kk ad H locs ls hP hn hS hl (ho.cons (rb_ok_l _ _)) hv)
theorem rb_tableIn (C : rb_C Φ own cc nL fr lo mc ms) {dflt lo' hi : Int} {offs : Array Int} {len : Nat} {x : Int32} {off : Int} (tgt : Nat) (hd : decode cc pc = .ok (.tableswitch dflt lo' hi offs, len)) (h1 : ¬ x.toInt < lo') (h2 : ¬ hi < x.toInt) (hoff : offs[(x.toInt - lo').toNat]? = some off) (ht : (pc : Int) + off = (tgt : Int)) (kk : rb_W Φ cells slots tgt Lv st G) : rb_W Φ cells slots pc Lv (rbI x :: st) G := by
  obtain ⟨p, l, e, R, s, m, args, below, meth, c, Q, X, A, ad0, G0⟩ := Φ
  intro ad H locs ls hP hn hS hl ho hv
  exact lv_tableIn C.1 C.2.1 hd h1 h2 hoff ht (kk ad H locs ls hP hn hS hl ho.tl hv)
theorem rb_tableOut (C : rb_C Φ own cc nL fr lo mc ms) {dflt lo' hi : Int} {offs : Array Int} {len : Nat} {x : Int32} (tgt : Nat) (hd : decode cc pc = .ok (.tableswitch dflt lo' hi offs, len)) (h1 : x.toInt < lo' ∨ hi < x.toInt) (ht : (pc : Int) + dflt = (tgt : Int)) (kk : rb_W Φ cells slots tgt Lv st G) : rb_W Φ cells slots pc Lv (rbI x :: st) G := by
  obtain ⟨p, l, e, R, s, m, args, below, meth, c, Q, X, A, ad0, G0⟩ := Φ
  intro ad H locs ls hP hn hS hl ho hv
  exact lv_tableOut C.1 C.2.1 hd h1 ht (kk ad H locs ls hP hn hS hl ho.tl hv)
/-- fewer locals known, more room used -/
theorem rb_W.weak {cells' slots' : Nat} (kk : rb_W Φ cells' slots' pc Lv' st G) (hc : cells ≤ cells') (hs : slots ≤ slots') (hlen : Lv'.length = Lv.length) (hsub : ∀ (i : Nat) (v : rb_V), Lv'[i]? = some (some v) → Lv[i]? = some (some v)) : rb_W Φ cells slots pc Lv st G := by
  obtain ⟨p, l, e, R, s, m, args, below, meth, c, Q, X, A, ad0, G0⟩ := Φ
  intro ad H locs ls hP hn hS hl ho hv
  refine W.widen hc hs (kk ad H locs ls hP hn hS (hl.weak hlen hsub) ho fun v hv' => ?_)
  obtain ⟨i, hi⟩ := List.getElem?_of_mem hv'
  exact hv v (List.mem_of_getElem? (hsub i v hi))
theorem rb_W.room {cells' slots' : Nat} (kk : rb_W Φ cells' slots' pc Lv st G) (hc : cells ≤ cells') (hs : slots ≤ slots') : rb_W Φ cells slots pc Lv st G := rb_W.weak kk hc hs rfl (fun _ _ h => h)
/-- ends -/
theorem rb_iret (C : rb_C Φ own cc nL fr lo mc ms) {Post : Option rb_V → rb_G → Prop} (hE : rb_E Φ (some .int) Post mc ms) {v : Int32} (hd : decode cc pc = .ok (.ireturn, 1)) (hc : cells ≤ mc) (hs : slots ≤ ms) (hp : Post (some (rbI v)) G) : rb_W Φ cells slots pc Lv [rbI v] G := by
  obtain ⟨p, l, e, R, s, m, args, below, meth, c, Q, X, A, ad0, G0⟩ := Φ
  intro ad H locs ls hP hn hS hl ho hv
  have hlk : meth.locks = false := C.2.2.2.2.2.1
  exact W.widen hc hs (hE.2 H locs _ (W.iret C.1 C.2.1 hE.1 (fun t ht hW => ⟨⟨some (rbI v), G, ad, rfl, hp, hn, fun w h => by cases h; exact rb_ok_i _ _, by rw [ht]; exact hP⟩, hS.F ht⟩) hS.2.2 hd hlk))
theorem rb_zret (C : rb_C Φ own cc nL fr lo mc ms) {Post : Option rb_V → rb_G → Prop} (hE : rb_E Φ (some .boolean) Post mc ms) {v : Int32} (hd : decode cc pc = .ok (.ireturn, 1)) (hz : narrow .boolean (.int v) = .int v) (hc : cells ≤ mc) (hs : slots ≤ ms) (hp : Post (some (rbI v)) G) : rb_W Φ cells slots pc Lv [rbI v] G := by
  obtain ⟨p, l, e, R, s, m, args, below, meth, c, Q, X, A, ad0, G0⟩ := Φ
  intro ad H locs ls hP hn hS hl ho hv
  have hlk : meth.locks = false := C.2.2.2.2.2.1
  exact W.widen hc hs (hE.2 H locs _ (W.zret C.1 C.2.1 hE.1 hz (fun t ht hW => ⟨⟨some (rbI v), G, ad, rfl, hp, hn, fun w h => by cases h; exact rb_ok_i _ _, by rw [ht]; exact hP⟩, hS.F ht⟩) hS.2.2 hd hlk))
theorem rb_vret (C : rb_C Φ own cc nL fr lo mc ms) {Post : Option rb_V → rb_G → Prop} (hE : rb_E Φ none Post mc ms) (hd : decode cc pc = .ok (.return_, 1)) (hc : cells ≤ mc) (hs : slots ≤ ms) (hp : Post none G) : rb_W Φ cells slots pc Lv [] G := by
  obtain ⟨p, l, e, R, s, m, args, below, meth, c, Q, X, A, ad0, G0⟩ := Φ
  intro ad H locs ls hP hn hS hl ho hv
  have hlk : meth.locks = false := C.2.2.2.2.2.1
  exact W.widen hc hs (hE.2 H locs _ (W.vret C.1 C.2.1 hE.1 (fun t ht hW => ⟨⟨none, G, ad, rfl, hp, hn, (fun w h => nomatch h), by rw [ht]; exact hP⟩, hS.F ht⟩) hS.2.2 hd hlk))
theorem rb_aret (C : rb_C Φ own cc nL fr lo mc ms) {Post : Option rb_V → rb_G → Prop} {rt : FieldType} (hE : rb_E Φ (some rt) Post mc ms) (hrt : (∃ n, rt = .object n) ∨ ∃ t, rt = .array t) {o : Option rb_R} (hd : decode cc pc = .ok (.areturn, 1)) (hc : cells ≤ mc) (hs : slots ≤ ms) (hp : Post (some (rbO o)) G) : rb_W Φ cells slots pc Lv [rbO o] G := by
  obtain ⟨p, l, e, R, s, m, args, below, meth, c, Q, X, A, ad0, G0⟩ := Φ
  intro ad H locs ls hP hn hS hl ho hv
  have hlk : meth.locks = false := C.2.2.2.2.2.1
  exact W.widen hc hs (hE.2 H locs _ (W.aret C.1 C.2.1 hE.1 hrt (va_rf_or (o.map ad)) (fun t ht hW => ⟨⟨some (rbO o), G, ad, rfl, hp, hn, fun w h => by cases h; exact ho.hd, by rw [ht]; exact hP⟩, hS.F ht⟩) hS.2.2 hd hlk))
/-- an exception that goes through -/
theorem rb_out (C : rb_C Φ own cc nL fr lo mc ms) {PX : String → rb_G → Prop} (hE : rb_EX Φ PX mc ms) {E : String} (hc : cells ≤ mc) (hs : slots ≤ ms) (hp : PX E G) : rb_Wx Φ cells slots pc Lv st G E := by
  obtain ⟨p, l, e, R, s, m, args, below, meth, c, Q, X, A, ad0, G0⟩ := Φ
  intro ad H locs ls q ce hP hn hS hl ho hv h1 h2 h3
  obtain ⟨ht, Qc, hQ⟩ := hE
  subst hQ
  exact vx_out (fun x hx => (ht x hx).elim) C.2.2.2.2.2.1 h1 h2 h3 (fun t ht hvm => ⟨⟨G, ad, hp, hn, by rw [ht]; exact hP⟩, hS.F ht⟩) hS.2.2 hc hs
end
