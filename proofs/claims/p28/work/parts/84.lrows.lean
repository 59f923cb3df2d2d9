/-! rows of the law: shifts and bits; the number that comes out, by an equation -/
section
variable {Φ : rb_F} {own : String} {cc : ByteArray} {nL fr lo mc ms cells slots pc : Nat} {Lv Lv' : List (Option rb_V)} {st : List rb_V} {G : rb_G}
theorem rb_ior (C : rb_C Φ own cc nL fr lo mc ms) {x y : Int32} (hd : decode cc pc = .ok (.ior, 1)) (kk : rb_W Φ cells slots (pc + 1) Lv (rbI (x ||| y) :: st) G) : rb_W Φ cells slots pc Lv (rbI y :: rbI x :: st) G := by
  obtain ⟨p, l, e, R, s, m, args, below, meth, c, Q, X, A, ad0, G0⟩ := Φ
  intro ad H locs ls hP hn hS hl ho hv
  exact lv_ior C.1 C.2.1 hd (kk ad H locs ls hP hn hS hl (ho.tl.tl.cons (rb_ok_i _ _)) hv)
theorem rb_ixor (C : rb_C Φ own cc nL fr lo mc ms) {x y : Int32} (hd : decode cc pc = .ok (.ixor, 1)) (kk : rb_W Φ cells slots (pc + 1) Lv (rbI (x ^^^ y) :: st) G) : rb_W Φ cells slots pc Lv (rbI y :: rbI x :: st) G := by
  obtain ⟨p, l, e, R, s, m, args, below, meth, c, Q, X, A, ad0, G0⟩ := Φ
  intro ad H locs ls hP hn hS hl ho hv
  exact lv_ixor C.1 C.2.1 hd (kk ad H locs ls hP hn hS hl (ho.tl.tl.cons (rb_ok_i _ _)) hv)
theorem rb_ishl (C : rb_C Φ own cc nL fr lo mc ms) {x y : Int32} (hd : decode cc pc = .ok (.ishl, 1)) (kk : rb_W Φ cells slots (pc + 1) Lv (rbI (x <<< (y &&& 31)) :: st) G) : rb_W Φ cells slots pc Lv (rbI y :: rbI x :: st) G := by
  obtain ⟨p, l, e, R, s, m, args, below, meth, c, Q, X, A, ad0, G0⟩ := Φ
  intro ad H locs ls hP hn hS hl ho hv
  exact lv_ishl C.1 C.2.1 hd (kk ad H locs ls hP hn hS hl (ho.tl.tl.cons (rb_ok_i _ _)) hv)
theorem rq_iushr (C : rb_C Φ own cc nL fr lo mc ms) {x y z : Int32} (hd : decode cc pc = .ok (.iushr, 1)) (e9 : (x.toUInt32 >>> (y.toUInt32 &&& Int32.toUInt32 31)).toInt32 = z) (kk : rb_W Φ cells slots (pc + 1) Lv (rbI z :: st) G) : rb_W Φ cells slots pc Lv (rbI y :: rbI x :: st) G := by
  obtain ⟨p, l, e, R, s, m, args, below, meth, c, Q, X, A, ad0, G0⟩ := Φ
  intro ad H locs ls hP hn hS hl ho hv
  exact lv_iushr C.1 C.2.1 hd e9 (kk ad H locs ls hP hn hS hl (ho.tl.tl.cons (rb_ok_i _ _)) hv)
theorem rb_dup_x2 (C : rb_C Φ own cc nL fr lo mc ms) {v w z : rb_V} (hd : decode cc pc = .ok (.dup_x2, 1)) (hc : rb_cat v = 1) (hw : rb_cat w = 1) (hz : rb_cat z = 1) (kk : rb_W Φ cells slots (pc + 1) Lv (v :: w :: z :: v :: st) G) : rb_W Φ cells slots pc Lv (v :: w :: z :: st) G := by
  obtain ⟨p, l, e, R, s, m, args, below, meth, c, Q, X, A, ad0, G0⟩ := Φ
  intro ad H locs ls hP hn hS hl ho hv
  exact lv_dup_x2 C.1 C.2.1 hd (by rw [rb_cat_c, hc]) (by rw [rb_cat_c, hw]) (by rw [rb_cat_c, hz]) (kk ad H locs ls hP hn hS hl ((((ho.tl.tl.tl.cons ho.hd).cons ho.tl.tl.hd).cons ho.tl.hd).cons ho.hd) hv)
theorem rq_imul (C : rb_C Φ own cc nL fr lo mc ms) {x y z : Int32} (hd : decode cc pc = .ok (.imul, 1)) (e9 : x * y = z) (kk : rb_W Φ cells slots (pc + 1) Lv (rbI z :: st) G) : rb_W Φ cells slots pc Lv (rbI y :: rbI x :: st) G := by
  subst e9
  exact rb_imul C hd kk
theorem rq_iadd (C : rb_C Φ own cc nL fr lo mc ms) {x y z : Int32} (hd : decode cc pc = .ok (.iadd, 1)) (e9 : x + y = z) (kk : rb_W Φ cells slots (pc + 1) Lv (rbI z :: st) G) : rb_W Φ cells slots pc Lv (rbI y :: rbI x :: st) G := by
  subst e9
  exact rb_iadd C hd kk
theorem rq_isub (C : rb_C Φ own cc nL fr lo mc ms) {x y z : Int32} (hd : decode cc pc = .ok (.isub, 1)) (e9 : x - y = z) (kk : rb_W Φ cells slots (pc + 1) Lv (rbI z :: st) G) : rb_W Φ cells slots pc Lv (rbI y :: rbI x :: st) G := by
  subst e9
  exact rb_isub C hd kk
theorem rq_iand (C : rb_C Φ own cc nL fr lo mc ms) {x y z : Int32} (hd : decode cc pc = .ok (.iand, 1)) (e9 : x &&& y = z) (kk : rb_W Φ cells slots (pc + 1) Lv (rbI z :: st) G) : rb_W Φ cells slots pc Lv (rbI y :: rbI x :: st) G := by
  subst e9
  exact rb_iand C hd kk
theorem rq_ishr (C : rb_C Φ own cc nL fr lo mc ms) {x y z : Int32} (hd : decode cc pc = .ok (.ishr, 1)) (e9 : x >>> (y &&& 31) = z) (kk : rb_W Φ cells slots (pc + 1) Lv (rbI z :: st) G) : rb_W Φ cells slots pc Lv (rbI y :: rbI x :: st) G := by
  subst e9
  exact rb_ishr C hd kk
theorem rq_ior (C : rb_C Φ own cc nL fr lo mc ms) {x y z : Int32} (hd : decode cc pc = .ok (.ior, 1)) (e9 : x ||| y = z) (kk : rb_W Φ cells slots (pc + 1) Lv (rbI z :: st) G) : rb_W Φ cells slots pc Lv (rbI y :: rbI x :: st) G := by
  subst e9
  exact rb_ior C hd kk
theorem rq_ixor (C : rb_C Φ own cc nL fr lo mc ms) {x y z : Int32} (hd : decode cc pc = .ok (.ixor, 1)) (e9 : x ^^^ y = z) (kk : rb_W Φ cells slots (pc + 1) Lv (rbI z :: st) G) : rb_W Φ cells slots pc Lv (rbI y :: rbI x :: st) G := by
  subst e9
  exact rb_ixor C hd kk
theorem rq_ishl (C : rb_C Φ own cc nL fr lo mc ms) {x y z : Int32} (hd : decode cc pc = .ok (.ishl, 1)) (e9 : x <<< (y &&& 31) = z) (kk : rb_W Φ cells slots (pc + 1) Lv (rbI z :: st) G) : rb_W Φ cells slots pc Lv (rbI y :: rbI x :: st) G := by
  subst e9
  exact rb_ishl C hd kk
theorem rq_idiv (C : rb_C Φ own cc nL fr lo mc ms) {x y z : Int32} (hd : decode cc pc = .ok (.idiv, 1)) (hne : ¬ y = 0) (e9 : x / y = z) (kk : rb_W Φ cells slots (pc + 1) Lv (rbI z :: st) G) : rb_W Φ cells slots pc Lv (rbI y :: rbI x :: st) G := by
  subst e9
  exact rb_idiv C hd hne kk
theorem rq_irem (C : rb_C Φ own cc nL fr lo mc ms) {x y z : Int32} (hd : decode cc pc = .ok (.irem, 1)) (hne : ¬ y = 0) (e9 : x - x / y * y = z) (kk : rb_W Φ cells slots (pc + 1) Lv (rbI z :: st) G) : rb_W Φ cells slots pc Lv (rbI y :: rbI x :: st) G := by
  subst e9
  exact rb_irem C hd hne kk
theorem rq_iinc (C : rb_C Φ own cc nL fr lo mc ms) {i : Nat} {n : Int} {x v : Int32} (hd : decode cc pc = .ok (.iinc i n, 3)) (hg : Lv[i]? = some (some (rbI x))) (hx : x + Int32.ofInt n = v) (h1 : rb_c1 Lv = true) (hL : Lv.set i (some (rbI v)) = Lv') (kk : rb_W Φ cells slots (pc + 3) Lv' st G) : rb_W Φ cells slots pc Lv st G := rb_iinc C hd hg hx h1 hL kk
end
/-! bits of small numbers -/
theorem bs_l : ∀ n, n < 32 → ((nI n &&& 31).toBitVec.smod 32).toNat = n := by decide +kernel
theorem bs_and {a : Nat} (ha : a < 2 ^ 31) (k : Nat) {m : Int32} (hm : m.toBitVec.toNat = 2 ^ k - 1) : nI a &&& m = nI (a % 2 ^ k) := pk_andN (by omega) k hm
theorem bs_shr {a : Nat} (ha : a < 2 ^ 31) {n : Nat} (hn : n < 32) : nI a >>> (nI n &&& 31) = nI (a / 2 ^ n) := pk_shrN ha _ n (bs_l n hn)
theorem bs_shl {a n : Nat} (hn : n < 32) (h : a * 2 ^ n < 2 ^ 32) : nI a <<< (nI n &&& 31) = nI (a * 2 ^ n) := pk_shlN _ n (bs_l n hn) h
theorem bs_or (a b : Nat) : nI a ||| nI b = nI (a ||| b) := by
  apply Int32.toBitVec_inj.mp
  rw [Int32.toBitVec_or]
  show BitVec.ofNat 32 a ||| BitVec.ofNat 32 b = BitVec.ofNat 32 (a ||| b)
  apply BitVec.eq_of_toNat_eq
  simp [Nat.or_mod_two_pow]
theorem bs_andn (a b : Nat) : nI a &&& nI b = nI (a &&& b) := by
  apply Int32.toBitVec_inj.mp
  rw [Int32.toBitVec_and]
  show BitVec.ofNat 32 a &&& BitVec.ofNat 32 b = BitVec.ofNat 32 (a &&& b)
  apply BitVec.eq_of_toNat_eq
  simp [Nat.and_mod_two_pow]
/-- a is below 2^k, b a multiple of 2^k -/
theorem bs_orD {a k b : Nat} (ha : a < 2 ^ k) : a ||| b * 2 ^ k = a + b * 2 ^ k := by
  rw [Nat.or_comm, Nat.mul_comm, ← Nat.two_pow_add_eq_or_of_lt ha, Nat.add_comm]
theorem bs_1 (x : Int32) : x &&& 1 = 0 ∨ x &&& 1 = 1 := by
  obtain ⟨j, hj, e⟩ := pk_andE x (m := 1) 1 rfl
  rcases (by omega : j = 0 ∨ j = 1) with rfl | rfl
  · exact Or.inl e
  · exact Or.inr e
