set_option maxRecDepth 100000 in
set_option maxHeartbeats 4000000 in
theorem c_growA (l : Launch) (X : rb_X) (r e1 : rb_R) (G : rb_G) (hk : rb_k r.1 = 0) (hke1 : rb_k e1.1 = 13) (hf : ¬ gD G e1) (hp : gP G r 1 = some (19, 0, 0)) (hD : gD G (19, 0, 0)) : rb_N l X yJx4a65c_grow_92f84 (.code yJx4a65c_grow_92f84 cJx4a65c_grow_92f84 4 (some (.array (.object "java/lang/Object")))) 1 24 1 10 [rbR r, rbI 1] G (fun v G' => v = some (rbR e1) ∧ G' = sP (sN G e1 10) r 1 (some e1)) := by
  refine rb_startN RJx4a65c rfl (by decide +kernel) rfl (Nat.le_of_ble_eq_true rfl) ?_
  intro Φ C E nm
  show rb_W Φ 0 0 0 [some (rbR r), some (rbI 1), none, none] [] G
  refine rb_aload_n C dJx4a65c_grow_92f84_0 rfl ?_
  refine rb_getP C FR_Jx4a65c_9 dJx4a65c_grow_92f84_1 hk (o := some (19, 0, 0)) hp ?_
  refine rb_alenE C dJx4a65c_grow_92f84_4 ?_
  refine rb_istore_n C dJx4a65c_grow_92f84_5 (Nat.le_of_ble_eq_true rfl) rfl (Lv' := [_, _, _, _]) rfl ?_
  refine rb_iload_n C dJx4a65c_grow_92f84_6 rfl ?_
  refine rb_if_gt C 20 dJx4a65c_grow_92f84_7 (by decide) (fun h9 => absurd h9 (by decide)) (fun _ => ?_)
  refine rb_aload_n C dJx4a65c_grow_92f84_10 rfl ?_
  refine rb_getP C FR_Jx4a65c_9 dJx4a65c_grow_92f84_11 hk (o := some (19, 0, 0)) hp ?_
  refine rb_getE C W_DE dJx4a65c_grow_92f84_14 hD ?_
  refine rb_acmp_eqY C 45 dJx4a65c_grow_92f84_17 (by decide) rfl ?_
  refine rb_aload_n C dJx4a65c_grow_92f84_45 rfl ?_
  refine rb_bipush C dJx4a65c_grow_92f84_46 (v := 10) (by decide) ?_
  refine rb_iload_n C dJx4a65c_grow_92f84_48 rfl ?_
  refine rb_mmax C MM_Jx4a65c_79 dJx4a65c_grow_92f84_49 rfl (Nat.le_of_ble_eq_true rfl) (Nat.le_of_ble_eq_true rfl) (Nat.le_of_ble_eq_true rfl) (Nat.le_of_ble_eq_true rfl) ?_
  rw [if_neg (show ¬ (10 : Int32) < 1 by decide)]
  refine rb_anew C e1 10 (k := 13) L_Jx4a65c_7 (by decide) (by decide) dJx4a65c_grow_92f84_52 hke1 hf (by decide) (by decide) (by decide) (Nat.le_of_ble_eq_true rfl) (Nat.le_of_ble_eq_true rfl) ?_
  refine rb_dup_x1 C dJx4a65c_grow_92f84_55 rfl rfl ?_
  refine rb_putP C F_Jx4a65c_9 dJx4a65c_grow_92f84_56 hk rfl ?_
  exact rb_aret C E (Or.inr ⟨_, rfl⟩) dJx4a65c_grow_92f84_59 (Nat.le_of_ble_eq_true rfl) (Nat.le_of_ble_eq_true rfl) (⟨rfl, rfl⟩)
set_option maxRecDepth 100000 in
set_option maxHeartbeats 4000000 in
theorem c_growB (l : Launch) (X : rb_X) (r e e1 : rb_R) (L N M : Nat) (G : rb_G) (hk : rb_k r.1 = 0) (hke : rb_k e.1 = 13) (hke1 : rb_k e1.1 = 13) (hf : ¬ gD G e1) (he : gD G e) (hgN : gN G e = L) (hL0 : 0 < L) (hNe : N = L + (if 1 < L / 2 then L / 2 else 1)) (hN : N < 100000) (hNM : N ≤ M) (hel : ∀ i, i < L → ∀ y, gP G e i = some y → rb_k y.1 = 2 ∨ rb_k y.1 = 7 ∨ rb_k y.1 = 4 ∨ rb_k y.1 = 5) (hD : gD G (21, 0, 0)) (hp : gP G r 1 = some e) : rb_N l X yJx4a65c_grow_92f84 (.code yJx4a65c_grow_92f84 cJx4a65c_grow_92f84 4 (some (.array (.object "java/lang/Object")))) 3 68 1 M [rbR r, rbI (nI (L + 1))] G (fun v G' => v = some (rbR e1) ∧ G' = sP (sQ (sN G e1 N) e1 (fun j => if j < L then gP G e j else none)) r 1 (some e1)) := by
  have hLN : L ≤ N := by omega
  have nI_gt0 : (0 : Int32) < nI L := by rw [show (0 : Int32) = nI 0 from rfl]; exact nI_lt hL0 (by omega)
  have hs9 : nI (L + 1) - nI L = nI 1 := by rw [pk_sub (by omega)]; congr 1; omega
  have hsh9 : nI L >>> ((1 : Int32) &&& 31) = nI (L / 2) := by rw [pk_shrN (by omega) ((1 : Int32) &&& 31) 1 (by decide)]
  have hlen9 : nI L + (if nI (L + 1) - nI L < nI L >>> ((1 : Int32) &&& 31) then nI L >>> ((1 : Int32) &&& 31) else nI (L + 1) - nI L) = nI N := by
    rw [hs9, hsh9, hNe]
    by_cases h : 1 < L / 2
    · rw [if_pos h, if_pos (nI_lt h (by omega)), nI_add]
    · rw [if_neg h, if_neg (nI_nlt (by omega) (by omega)), nI_add]
  have hpos9 : ¬ nI N ≤ 0 := nI_nle (by omega) (by omega)
  have hbig9 : ¬ 2147483639 < nI N := by
    rw [Int32.lt_iff_toInt_lt, nI_toInt (by omega), show (2147483639 : Int32).toInt = 2147483639 from by decide +kernel]
    omega
  refine rb_startN RJx4a65c rfl (by decide +kernel) rfl (Nat.le_of_ble_eq_true rfl) ?_
  intro Φ C E nm
  show rb_W Φ 0 0 0 [some (rbR r), some (rbI (nI (L + 1))), none, none] [] G
  refine rb_aload_n C dJx4a65c_grow_92f84_0 rfl ?_
  refine rb_getP C FR_Jx4a65c_9 dJx4a65c_grow_92f84_1 hk (o := some e) hp ?_
  refine rb_alen C dJx4a65c_grow_92f84_4 hke (by decide) (by decide) ?_
  rw [hgN]
  refine rb_istore_n C dJx4a65c_grow_92f84_5 (Nat.le_of_ble_eq_true rfl) rfl (Lv' := [_, _, _, _]) rfl ?_
  refine rb_iload_n C dJx4a65c_grow_92f84_6 rfl ?_
  refine rb_if_gt C 20 dJx4a65c_grow_92f84_7 (by decide) (fun _ => ?_) (fun h9 => absurd (nI_gt0) h9)
  refine rb_iload_n C dJx4a65c_grow_92f84_20 rfl ?_
  refine rb_iload_n C dJx4a65c_grow_92f84_21 rfl ?_
  refine rb_iload_n C dJx4a65c_grow_92f84_22 rfl ?_
  refine rb_isub C dJx4a65c_grow_92f84_23 ?_
  refine rb_iload_n C dJx4a65c_grow_92f84_24 rfl ?_
  refine rb_iconst C dJx4a65c_grow_92f84_25 (v := 1) (by decide) ?_
  refine rb_ishr C dJx4a65c_grow_92f84_26 ?_
  refine rb_callS C M_Jx4a65c_73 (fun l X => (c_newLen l X (nI L) (nI (L + 1) - nI L) (nI L >>> ((1 : Int32) &&& 31)) (nI N) G hlen9 hpos9 hbig9).m) dJx4a65c_grow_92f84_27 rfl rfl rfl (Nat.le_of_ble_eq_true rfl) ⟨(Nat.le_of_ble_eq_true rfl), (Nat.le_of_ble_eq_true rfl)⟩ (Nat.le_of_ble_eq_true rfl) (by omega) (fun v G' hp => ?_) (fun _ _ hp => hp.elim)
  obtain ⟨rfl, e9⟩ := hp
  rw [e9]
  clear e9 G'
  refine rb_istore_n C dJx4a65c_grow_92f84_30 (Nat.le_of_ble_eq_true rfl) rfl (Lv' := [_, _, _, _]) rfl ?_
  refine rb_aload_n C dJx4a65c_grow_92f84_31 rfl ?_
  refine rb_aload_n C dJx4a65c_grow_92f84_32 rfl ?_
  refine rb_getP C FR_Jx4a65c_9 dJx4a65c_grow_92f84_33 hk (o := some e) hp ?_
  refine rb_iload_n C dJx4a65c_grow_92f84_36 rfl ?_
  refine rb_callS C M_Jx4a65c_66 (fun l X => (c_copy2 l X e e1 L N M G hke hke1 hf he hgN hLN hN hNM hel hD).m) dJx4a65c_grow_92f84_37 rfl rfl rfl (Nat.le_of_ble_eq_true rfl) ⟨(Nat.le_of_ble_eq_true rfl), (Nat.le_of_ble_eq_true rfl)⟩ (Nat.le_of_ble_eq_true rfl) (by omega) (fun v G' hp => ?_) (fun _ _ hp => hp.elim)
  obtain ⟨rfl, e9⟩ := hp
  rw [e9]
  clear e9 G'
  refine rb_dup_x1 C dJx4a65c_grow_92f84_40 rfl rfl ?_
  refine rb_putP C F_Jx4a65c_9 dJx4a65c_grow_92f84_41 hk rfl ?_
  exact rb_aret C E (Or.inr ⟨_, rfl⟩) dJx4a65c_grow_92f84_44 (Nat.le_of_ble_eq_true rfl) (by omega) ⟨rfl, rfl⟩
set_option maxRecDepth 100000 in
set_option maxHeartbeats 4000000 in
theorem c_grow0A (l : Launch) (X : rb_X) (r e1 : rb_R) (G : rb_G) (hk : rb_k r.1 = 0) (hke1 : rb_k e1.1 = 13) (hf : ¬ gD G e1) (hp : gP G r 1 = some (19, 0, 0)) (hsz : gI G r 2 = 0) (hD : gD G (19, 0, 0)) : rb_N l X yJx4a65c_grow_d5877 (.code yJx4a65c_grow_d5877 cJx4a65c_grow_d5877 1 (some (.array (.object "java/lang/Object")))) 2 47 1 10 [rbR r] G (fun v G' => v = some (rbR e1) ∧ G' = sP (sN G e1 10) r 1 (some e1)) := by
  refine rb_startN RJx4a65c rfl (by decide +kernel) rfl (Nat.le_of_ble_eq_true rfl) ?_
  intro Φ C E nm
  show rb_W Φ 0 0 0 [some (rbR r)] [] G
  refine rb_aload_n C dJx4a65c_grow_d5877_0 rfl ?_
  refine rb_aload_n C dJx4a65c_grow_d5877_1 rfl ?_
  refine rb_getI C FR_Jx4a65c_48 dJx4a65c_grow_d5877_2 hk ?_
  refine rb_iconst C dJx4a65c_grow_d5877_5 (v := 1) (by decide) ?_
  refine rb_iadd C dJx4a65c_grow_d5877_6 ?_
  rw [hsz, show (0 : Int32) + 1 = 1 from rfl]
  refine rb_callV C M_Jx4a65c_69 (fun l X => (c_growA l X r e1 G hk hke1 hf hp hD).m) rfl (Nat.le_of_ble_eq_true rfl) hk dJx4a65c_grow_d5877_7 rfl rfl rfl (Nat.le_of_ble_eq_true rfl) ⟨(Nat.le_of_ble_eq_true rfl), (Nat.le_of_ble_eq_true rfl)⟩ (Nat.le_of_ble_eq_true rfl) (Nat.le_of_ble_eq_true rfl) (fun v G' hp => ?_) (fun _ _ hp => hp.elim)
  obtain ⟨rfl, e9⟩ := hp
  rw [e9]
  clear e9 G'
  exact rb_aret C E (Or.inr ⟨_, rfl⟩) dJx4a65c_grow_d5877_10 (Nat.le_of_ble_eq_true rfl) (Nat.le_of_ble_eq_true rfl) (⟨rfl, rfl⟩)
set_option maxRecDepth 100000 in
set_option maxHeartbeats 4000000 in
theorem c_grow0B (l : Launch) (X : rb_X) (r e e1 : rb_R) (L N M : Nat) (G : rb_G) (hk : rb_k r.1 = 0) (hke : rb_k e.1 = 13) (hke1 : rb_k e1.1 = 13) (hf : ¬ gD G e1) (he : gD G e) (hgN : gN G e = L) (hL0 : 0 < L) (hsz : gI G r 2 = nI L) (hNe : N = L + (if 1 < L / 2 then L / 2 else 1)) (hN : N < 100000) (hNM : N ≤ M) (hel : ∀ i, i < L → ∀ y, gP G e i = some y → rb_k y.1 = 2 ∨ rb_k y.1 = 7 ∨ rb_k y.1 = 4 ∨ rb_k y.1 = 5) (hD : gD G (21, 0, 0)) (hp : gP G r 1 = some e) : rb_N l X yJx4a65c_grow_d5877 (.code yJx4a65c_grow_d5877 cJx4a65c_grow_d5877 1 (some (.array (.object "java/lang/Object")))) 4 91 1 M [rbR r] G (fun v G' => v = some (rbR e1) ∧ G' = sP (sQ (sN G e1 N) e1 (fun j => if j < L then gP G e j else none)) r 1 (some e1)) := by
  refine rb_startN RJx4a65c rfl (by decide +kernel) rfl (Nat.le_of_ble_eq_true rfl) ?_
  intro Φ C E nm
  show rb_W Φ 0 0 0 [some (rbR r)] [] G
  refine rb_aload_n C dJx4a65c_grow_d5877_0 rfl ?_
  refine rb_aload_n C dJx4a65c_grow_d5877_1 rfl ?_
  refine rb_getI C FR_Jx4a65c_48 dJx4a65c_grow_d5877_2 hk ?_
  refine rb_iconst C dJx4a65c_grow_d5877_5 (v := 1) (by decide) ?_
  refine rb_iadd C dJx4a65c_grow_d5877_6 ?_
  rw [hsz, nI_1]
  refine rb_callV C M_Jx4a65c_69 (fun l X => (c_growB l X r e e1 L N M G hk hke hke1 hf he hgN hL0 hNe hN hNM hel hD hp).m) rfl (Nat.le_of_ble_eq_true rfl) hk dJx4a65c_grow_d5877_7 rfl rfl rfl (Nat.le_of_ble_eq_true rfl) ⟨(Nat.le_of_ble_eq_true rfl), (Nat.le_of_ble_eq_true rfl)⟩ (Nat.le_of_ble_eq_true rfl) (by omega) (fun v G' hp => ?_) (fun _ _ hp => hp.elim)
  obtain ⟨rfl, e9⟩ := hp
  rw [e9]
  clear e9 G'
  exact rb_aret C E (Or.inr ⟨_, rfl⟩) dJx4a65c_grow_d5877_10 (Nat.le_of_ble_eq_true rfl) (by omega) ⟨rfl, rfl⟩
