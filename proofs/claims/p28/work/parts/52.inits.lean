section
variable {Φ : rb_F} {own : String} {cc : ByteArray} {nL fr lo mc ms cells slots pc : Nat} {Lv : List (Option rb_V)} {st : List rb_V} {G : rb_G} {W : rb_I}
theorem rw_putFI (C : rb_C Φ own cc nL fr lo mc ms) (hin2 : rb_nm Φ "<init>") {r : rb_R} {v : Int32} {idx ci k : Nat} {ty : FieldType} (F : rb_Fld own idx ci k false true ty) (hd : decode cc pc = .ok (.putfield idx, 3)) (hk : rb_k r.1 = ci) (hnf : narrow ty (.int v) = .int v ∧ fits ty (.int v) = true) (kk : rb_W Φ cells slots (pc + 3) Lv st (wI G (up2 W r k v))) : rb_W Φ cells slots pc Lv (rbI v :: rbR r :: st) (wI G W) := rb_putFI C hin2 F hd hk hnf kk
/-- a row of zeros -/
def zW (W : rb_I) (r : rb_R) : rb_I := fun x k => if x = r then 0 else W x k
theorem rw_new (C : rb_C Φ own cc nL fr lo mc ms) (r : rb_R) {idx ci N : Nat} (F : rb_Cls own idx ci N) (hd : decode cc pc = .ok (.new idx, 3)) (hk : rb_k r.1 = ci) (hf : ¬ gD G r) (hc : cells + 1 ≤ mc) (hs : slots + N ≤ ms) (kk : rb_W Φ (cells + 1) (slots + N) (pc + 3) Lv (rbR r :: st) (wI (sN G r 0) (zW W r))) : rb_W Φ cells slots pc Lv st (wI G W) := rb_new C r F hd hk hf hc hs kk
end
def x1_init (W : rb_I) (j : Nat) (ho : Int32) (vi : Int32) (fr0 : Int32) (to0 : Int32) (pr : Int32) (th : Int32) (lw : Int32) : rb_I := (up2 (up2 (up2 (up2 (up2 (up2 (up2 W (10, j, 0) 0 ho) (10, j, 0) 1 vi) (10, j, 0) 2 fr0) (10, j, 0) 3 to0) (10, j, 0) 4 pr) (10, j, 0) 5 th) (10, j, 0) 6 lw)
set_option maxRecDepth 100000 in
set_option maxHeartbeats 4000000 in
theorem k_X1_init (l : Launch) (X : rb_X) (G : rb_G) (W : rb_I)  (j : Nat) (ho : Int32) (vi : Int32) (fr0 : Int32) (to0 : Int32) (pr : Int32) (th : Int32) (lw : Int32)  : rb_N l X yX1_init (.code yX1_init cX1_init 8 none) 1 12 0 0 [rbR (10, j, 0), rbI ho, rbI vi, rbI fr0, rbI to0, rbI pr, rbI th, rbI lw] (wI G W) (fun v9 G9 => v9 = none ∧ G9 = wI G (x1_init W j ho vi fr0 to0 pr th lw)) := by
  refine rb_startN RX1 rfl (by decide +kernel) rfl (Nat.le_of_ble_eq_true rfl) ?_
  intro Φ C E nm
  show rb_W Φ 0 0 0 [some (rbR (10, j, 0)), some (rbI ho), some (rbI vi), some (rbI fr0), some (rbI to0), some (rbI pr), some (rbI th), some (rbI lw)] [] (wI G W)
  refine rb_aload_n C dX1_init_0 rfl ?_
  refine rb_objInit C M_X1_1 ts_oi ts_oc dX1_init_1 rfl (Nat.le_of_ble_eq_true rfl) (Nat.le_of_ble_eq_true rfl) ?_
  refine rb_aload_n C dX1_init_4 rfl ?_
  refine rb_iload_n C dX1_init_5 rfl ?_
  refine rw_putFI C nm F_X1_7 dX1_init_6 rfl ⟨rfl, rfl⟩ ?_
  refine rb_aload_n C dX1_init_9 rfl ?_
  refine rb_iload_n C dX1_init_10 rfl ?_
  refine rw_putFI C nm F_X1_13 dX1_init_11 rfl ⟨rfl, rfl⟩ ?_
  refine rb_aload_n C dX1_init_14 rfl ?_
  refine rb_iload_n C dX1_init_15 rfl ?_
  refine rw_putFI C nm F_X1_16 dX1_init_16 rfl ⟨rfl, rfl⟩ ?_
  refine rb_aload_n C dX1_init_19 rfl ?_
  refine rb_iload C dX1_init_20 rfl ?_
  refine rw_putFI C nm F_X1_19 dX1_init_22 rfl ⟨rfl, rfl⟩ ?_
  refine rb_aload_n C dX1_init_25 rfl ?_
  refine rb_iload C dX1_init_26 rfl ?_
  refine rw_putFI C nm F_X1_22 dX1_init_28 rfl ⟨rfl, rfl⟩ ?_
  refine rb_aload_n C dX1_init_31 rfl ?_
  refine rb_iload C dX1_init_32 rfl ?_
  refine rw_putFI C nm F_X1_25 dX1_init_34 rfl ⟨rfl, rfl⟩ ?_
  refine rb_aload_n C dX1_init_37 rfl ?_
  refine rb_iload C dX1_init_38 rfl ?_
  refine rw_putFI C nm F_X1_28 dX1_init_40 rfl ⟨rfl, rfl⟩ ?_
  exact rb_vret C E dX1_init_43 (Nat.le_of_ble_eq_true rfl) (Nat.le_of_ble_eq_true rfl) (pw_ (rfl))

def x3_init (W : rb_I) (j : Nat) (a : Int32) (b : Int32) (c : Int32) (d : Int32) : rb_I := (up2 (up2 (up2 (up2 W (11, j, 0) 0 a) (11, j, 0) 1 b) (11, j, 0) 2 c) (11, j, 0) 3 d)
set_option maxRecDepth 100000 in
set_option maxHeartbeats 4000000 in
theorem k_X3_init (l : Launch) (X : rb_X) (G : rb_G) (W : rb_I)  (j : Nat) (a : Int32) (b : Int32) (c : Int32) (d : Int32)  : rb_N l X yX3_init (.code yX3_init cX3_init 5 none) 1 12 0 0 [rbR (11, j, 0), rbI a, rbI b, rbI c, rbI d] (wI G W) (fun v9 G9 => v9 = none ∧ G9 = wI G (x3_init W j a b c d)) := by
  refine rb_startN RX3 rfl (by decide +kernel) rfl (Nat.le_of_ble_eq_true rfl) ?_
  intro Φ C E nm
  show rb_W Φ 0 0 0 [some (rbR (11, j, 0)), some (rbI a), some (rbI b), some (rbI c), some (rbI d)] [] (wI G W)
  refine rb_aload_n C dX3_init_0 rfl ?_
  refine rb_objInit C M_X3_1 ts_oi ts_oc dX3_init_1 rfl (Nat.le_of_ble_eq_true rfl) (Nat.le_of_ble_eq_true rfl) ?_
  refine rb_aload_n C dX3_init_4 rfl ?_
  refine rb_iload_n C dX3_init_5 rfl ?_
  refine rw_putFI C nm F_X3_7 dX3_init_6 rfl ⟨rfl, rfl⟩ ?_
  refine rb_aload_n C dX3_init_9 rfl ?_
  refine rb_iload_n C dX3_init_10 rfl ?_
  refine rw_putFI C nm F_X3_13 dX3_init_11 rfl ⟨rfl, rfl⟩ ?_
  refine rb_aload_n C dX3_init_14 rfl ?_
  refine rb_iload_n C dX3_init_15 rfl ?_
  refine rw_putFI C nm F_X3_16 dX3_init_16 rfl ⟨rfl, rfl⟩ ?_
  refine rb_aload_n C dX3_init_19 rfl ?_
  refine rb_iload C dX3_init_20 rfl ?_
  refine rw_putFI C nm F_X3_19 dX3_init_22 rfl ⟨rfl, rfl⟩ ?_
  exact rb_vret C E dX3_init_25 (Nat.le_of_ble_eq_true rfl) (Nat.le_of_ble_eq_true rfl) (pw_ (rfl))

def x6_init (W : rb_I) (j : Nat) (nu : Int32) (ho : Int32) (pl : Int32) (fo0 : Int32) : rb_I := (up2 (up2 (up2 (up2 (up2 (up2 (up2 W (9, j, 0) 4 (-1)) (9, j, 0) 5 (-1)) (9, j, 0) 7 5000) (9, j, 0) 0 nu) (9, j, 0) 1 ho) (9, j, 0) 3 pl) (9, j, 0) 2 fo0)
set_option maxRecDepth 100000 in
set_option maxHeartbeats 4000000 in
theorem k_X6_init (l : Launch) (X : rb_X) (G : rb_G) (W : rb_I)  (j : Nat) (nu : Int32) (ho : Int32) (pl : Int32) (fo0 : Int32)  : rb_N l X yX6_init (.code yX6_init cX6_init 5 none) 1 12 0 0 [rbR (9, j, 0), rbI nu, rbI ho, rbI pl, rbI fo0] (wI G W) (fun v9 G9 => v9 = none ∧ G9 = wI G (x6_init W j nu ho pl fo0)) := by
  refine rb_startN RX6 rfl (by decide +kernel) rfl (Nat.le_of_ble_eq_true rfl) ?_
  intro Φ C E nm
  show rb_W Φ 0 0 0 [some (rbR (9, j, 0)), some (rbI nu), some (rbI ho), some (rbI pl), some (rbI fo0)] [] (wI G W)
  refine rb_aload_n C dX6_init_0 rfl ?_
  refine rb_objInit C M_X6_3 ts_oi ts_oc dX6_init_1 rfl (Nat.le_of_ble_eq_true rfl) (Nat.le_of_ble_eq_true rfl) ?_
  refine rb_aload_n C dX6_init_4 rfl ?_
  refine rb_iconst C dX6_init_5 (v := (-1)) (by decide) ?_
  refine rw_putI C F_X6_9 dX6_init_6 rfl ⟨rfl, rfl⟩ ?_
  refine rb_aload_n C dX6_init_9 rfl ?_
  refine rb_iconst C dX6_init_10 (v := (-1)) (by decide) ?_
  refine rw_putI C F_X6_15 dX6_init_11 rfl ⟨rfl, rfl⟩ ?_
  refine rb_aload_n C dX6_init_14 rfl ?_
  refine rb_sipush C dX6_init_15 (v := 5000) (by decide) ?_
  refine rw_putI C F_X6_18 dX6_init_18 rfl ⟨rfl, rfl⟩ ?_
  refine rb_aload_n C dX6_init_21 rfl ?_
  refine rb_iload_n C dX6_init_22 rfl ?_
  refine rw_putFI C nm F_X6_21 dX6_init_23 rfl ⟨rfl, rfl⟩ ?_
  refine rb_aload_n C dX6_init_26 rfl ?_
  refine rb_iload_n C dX6_init_27 rfl ?_
  refine rw_putFI C nm F_X6_24 dX6_init_28 rfl ⟨rfl, rfl⟩ ?_
  refine rb_aload_n C dX6_init_31 rfl ?_
  refine rb_iload_n C dX6_init_32 rfl ?_
  refine rw_putI C F_X6_27 dX6_init_33 rfl ⟨rfl, rfl⟩ ?_
  refine rb_aload_n C dX6_init_36 rfl ?_
  refine rb_iload C dX6_init_37 rfl ?_
  refine rw_putFI C nm F_X6_30 dX6_init_39 rfl ⟨rfl, rfl⟩ ?_
  exact rb_vret C E dX6_init_42 (Nat.le_of_ble_eq_true rfl) (Nat.le_of_ble_eq_true rfl) (pw_ (rfl))

