set_option maxRecDepth 100000 in
set_option maxHeartbeats 4000000 in
theorem c_newLen (l : Launch) (X : rb_X) (a b c y : Int32) (G : rb_G) (hy : a + (if b < c then c else b) = y) (h1 : ¬ y ≤ 0) (h2 : ¬ 2147483639 < y) : rb_N l X yJ8_newLength_cabcc (.code yJ8_newLength_cabcc cJ8_newLength_cabcc 4 (some .int)) 1 20 0 0 [rbI a, rbI b, rbI c] G (fun v G' => v = some (rbI (y)) ∧ G' = G) := by
  refine rb_startN RJ8 rfl (by decide +kernel) rfl (Nat.le_of_ble_eq_true rfl) ?_
  intro Φ C E nm
  show rb_W Φ 0 0 0 [some (rbI a), some (rbI b), some (rbI c), none] [] G
  refine rb_iload_n C dJ8_newLength_cabcc_0 rfl ?_
  refine rb_iload_n C dJ8_newLength_cabcc_1 rfl ?_
  refine rb_iload_n C dJ8_newLength_cabcc_2 rfl ?_
  refine rb_mmax C MM_J8_194 dJ8_newLength_cabcc_3 rfl (Nat.le_of_ble_eq_true rfl) (Nat.le_of_ble_eq_true rfl) (Nat.le_of_ble_eq_true rfl) (Nat.le_of_ble_eq_true rfl) ?_
  refine rb_iadd C dJ8_newLength_cabcc_6 ?_
  rw [hy]
  refine rb_istore_n C dJ8_newLength_cabcc_7 (Nat.le_of_ble_eq_true rfl) rfl (Lv' := [_, _, _, _]) rfl ?_
  refine rb_iconst C dJ8_newLength_cabcc_8 (v := 0) (by decide) ?_
  refine rb_iload_n C dJ8_newLength_cabcc_9 rfl ?_
  refine rb_icmp_ge C 21 dJ8_newLength_cabcc_10 (by decide) (fun h9 => absurd h9 (h1)) (fun _ => ?_)
  refine rb_iload_n C dJ8_newLength_cabcc_13 rfl ?_
  refine rb_ldc C dJ8_newLength_cabcc_14 N_J8_200 ?_
  refine rb_icmp_gt C 21 dJ8_newLength_cabcc_16 (by decide) (fun h9 => absurd h9 (h2)) (fun _ => ?_)
  refine rb_iload_n C dJ8_newLength_cabcc_19 rfl ?_
  exact rb_iret C E dJ8_newLength_cabcc_20 (Nat.le_of_ble_eq_true rfl) (Nat.le_of_ble_eq_true rfl) (⟨rfl, rfl⟩)
set_option maxRecDepth 100000 in
set_option maxHeartbeats 4000000 in
theorem c_copy3 (l : Launch) (X : rb_X) (e e1 : rb_R) (L N M : Nat) (G : rb_G) (hke : rb_k e.1 = 13) (hke1 : rb_k e1.1 = 13) (hf : ¬ gD G e1) (he : gD G e) (hgN : gN G e = L) (hLN : L ≤ N) (hN : N < 100000) (hNM : N ≤ M) (hel : ∀ i, i < L → ∀ y, gP G e i = some y → rb_k y.1 = 2 ∨ rb_k y.1 = 7 ∨ rb_k y.1 = 4 ∨ rb_k y.1 = 5) (hD : gD G (21, 0, 0)) : rb_N l X yJ7_copyOf_6403c (.code yJ7_copyOf_6403c cJ7_copyOf_6403c 4 (some (.array (.object "java/lang/Object")))) 1 24 1 M [rbR e, rbI (nI N), rbR (21, 0, 0)] G (fun v G' => v = some (rbR e1) ∧ G' = sQ (sN G e1 N) e1 (fun j => if j < L then gP G e j else none)) := by
  have hne : e ≠ e1 := fun q => hf (by rw [← q]; exact he)
  have hL : L < 2 ^ 31 := by omega
  have hg1 : gN (sN G e1 N) e = gN G e := by show (if e = e1 then N else gN G e) = _; rw [if_neg hne]
  have hp1 : ∀ i, gP (sN G e1 N) e i = gP G e i := fun i => by show (if e = e1 then none else gP G e i) = _; rw [if_neg hne]
  have hq1 : (fun j => if j < L then gP (sN G e1 N) e j else gP (sN G e1 N) e1 j) = fun j => if j < L then gP G e j else none := by
    funext j
    rw [hp1, sN_P]
  refine rb_startN RJ7 rfl (by decide +kernel) rfl (Nat.le_of_ble_eq_true rfl) ?_
  intro Φ C E nm
  show rb_W Φ 0 0 0 [some (rbR e), some (rbI (nI N)), some (rbR (21, 0, 0)), none] [] G
  refine rb_aload_n C dJ7_copyOf_6403c_0 rfl ?_
  refine rb_ldcM C L_J7_110 dJ7_copyOf_6403c_1 hD ?_
  refine rb_acmp_ne C dJ7_copyOf_6403c_3 (tgt := 13) (by decide) rfl ?_
  refine rb_iload_n C dJ7_copyOf_6403c_6 rfl ?_
  refine rb_anew C e1 N (k := 13) L_J7_2 (by decide) (by decide) dJ7_copyOf_6403c_7 hke1 hf (nI_pos (by omega)) (nI_clamp (by omega)) (by omega) (Nat.le_of_ble_eq_true rfl) (by omega) ?_
  refine rb_goto C 24 dJ7_copyOf_6403c_10 (by decide) ?_
  refine rb_astore_n C dJ7_copyOf_6403c_24 (Nat.le_of_ble_eq_true rfl) rfl (Lv' := [_, _, _, _]) rfl ?_
  refine rb_aload_n C dJ7_copyOf_6403c_25 rfl ?_
  refine rb_iconst C dJ7_copyOf_6403c_26 (v := 0) (by decide) ?_
  refine rb_aload_n C dJ7_copyOf_6403c_27 rfl ?_
  refine rb_iconst C dJ7_copyOf_6403c_28 (v := 0) (by decide) ?_
  refine rb_aload_n C dJ7_copyOf_6403c_29 rfl ?_
  refine rb_alen C dJ7_copyOf_6403c_30 hke (by decide) (by decide) ?_
  rw [hg1, hgN]
  refine rb_iload_n C dJ7_copyOf_6403c_31 rfl ?_
  refine rb_mmin C MM_J7_304 dJ7_copyOf_6403c_32 rfl (Nat.le_of_ble_eq_true rfl) (Nat.le_of_ble_eq_true rfl) (Nat.le_of_ble_eq_true rfl) (by omega) ?_
  rw [if_neg (nI_nlt hLN (by omega))]
  refine rb_copyq C (N := L) AC_1 AC_2 AC_3 AC_4 dJ7_copyOf_6403c_35 hke hke1 (nI_pos hL) (nI_clamp hL) (by rw [hg1]; exact Nat.le_of_eq hgN.symm) (by rw [sN_N]; exact hLN) (fun i hi y hy => hel i hi y (by rw [hp1] at hy; exact hy)) rfl (Nat.le_of_ble_eq_true rfl) (Nat.le_of_ble_eq_true rfl) ?_
  refine rb_aload_n C dJ7_copyOf_6403c_38 rfl ?_
  exact rb_aret C E (Or.inr ⟨_, rfl⟩) dJ7_copyOf_6403c_39 (Nat.le_of_ble_eq_true rfl) (by omega) ⟨rfl, by rw [hq1]⟩
set_option maxRecDepth 100000 in
set_option maxHeartbeats 4000000 in
theorem c_copy2 (l : Launch) (X : rb_X) (e e1 : rb_R) (L N M : Nat) (G : rb_G) (hke : rb_k e.1 = 13) (hke1 : rb_k e1.1 = 13) (hf : ¬ gD G e1) (he : gD G e) (hgN : gN G e = L) (hLN : L ≤ N) (hN : N < 100000) (hNM : N ≤ M) (hel : ∀ i, i < L → ∀ y, gP G e i = some y → rb_k y.1 = 2 ∨ rb_k y.1 = 7 ∨ rb_k y.1 = 4 ∨ rb_k y.1 = 5) (hD : gD G (21, 0, 0)) : rb_N l X yJ7_copyOf_1904c (.code yJ7_copyOf_1904c cJ7_copyOf_1904c 2 (some (.array (.object "java/lang/Object")))) 2 47 1 M [rbR e, rbI (nI N)] G (fun v G' => v = some (rbR e1) ∧ G' = sQ (sN G e1 N) e1 (fun j => if j < L then gP G e j else none)) := by
  refine rb_startN RJ7 rfl (by decide +kernel) rfl (Nat.le_of_ble_eq_true rfl) ?_
  intro Φ C E nm
  show rb_W Φ 0 0 0 [some (rbR e), some (rbI (nI N))] [] G
  refine rb_aload_n C dJ7_copyOf_1904c_0 rfl ?_
  refine rb_iload_n C dJ7_copyOf_1904c_1 rfl ?_
  refine rb_aload_n C dJ7_copyOf_1904c_2 rfl ?_
  refine rb_getC C GC_1 GC_2 GC_3 GC_4 dJ7_copyOf_1904c_3 hke hD rfl (Nat.le_of_ble_eq_true rfl) (Nat.le_of_ble_eq_true rfl) ?_
  refine rb_callS C M_J7_300 (fun l X => (c_copy3 l X e e1 L N M G hke hke1 hf he hgN hLN hN hNM hel hD).m) dJ7_copyOf_1904c_6 rfl rfl rfl (Nat.le_of_ble_eq_true rfl) ⟨(Nat.le_of_ble_eq_true rfl), (Nat.le_of_ble_eq_true rfl)⟩ (Nat.le_of_ble_eq_true rfl) (by omega) (fun v G' hp => ?_) (fun _ _ hp => hp.elim)
  obtain ⟨rfl, e9⟩ := hp
  rw [e9]
  clear e9 G'
  exact rb_aret C E (Or.inr ⟨_, rfl⟩) dJ7_copyOf_1904c_9 (Nat.le_of_ble_eq_true rfl) (by omega) ⟨rfl, rfl⟩
