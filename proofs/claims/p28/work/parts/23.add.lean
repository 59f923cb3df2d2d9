set_option maxRecDepth 100000 in
set_option maxHeartbeats 4000000 in
theorem c_add3a (l : Launch) (X : rb_X) (r v e : rb_R) (ci n L : Nat) (G : rb_G) (hk : rb_k r.1 = 0) (hke : rb_k e.1 = 13) (hkv : rb_k v.1 = ci) (hfit : rb_fit2 13 ci) (hgN : gN G e = L) (hn : n < L) (hL : L < 100000) : rb_N l X yJx4a65c_add_72be8 (.code yJx4a65c_add_72be8 cJx4a65c_add_72be8 4 none) 1 12 0 0 [rbR r, rbR v, rbR e, rbI (nI n)] G (fun v9 G' => v9 = none ∧ G' = sI (sP G e n (some v)) r 2 (nI (n + 1))) := by
  have hne9 : nI n ≠ nI L := fun q => by rw [nI_eq (by omega) (by omega)] at q; omega
  refine rb_startN RJx4a65c rfl (by decide +kernel) rfl (Nat.le_of_ble_eq_true rfl) ?_
  intro Φ C E nm
  show rb_W Φ 0 0 0 [some (rbR r), some (rbR v), some (rbR e), some (rbI (nI n))] [] G
  refine rb_iload_n C dJx4a65c_add_72be8_0 rfl ?_
  refine rb_aload_n C dJx4a65c_add_72be8_1 rfl ?_
  refine rb_alen C dJx4a65c_add_72be8_2 hke (by decide) (by decide) ?_
  rw [hgN]
  refine rb_icmp_ne C 11 dJx4a65c_add_72be8_3 (by decide) (fun _ => ?_) (fun h9 => absurd h9 (hne9))
  refine rb_aload_n C dJx4a65c_add_72be8_11 rfl ?_
  refine rb_iload_n C dJx4a65c_add_72be8_12 rfl ?_
  refine rb_aload_n C dJx4a65c_add_72be8_13 rfl ?_
  refine rb_aast C dJx4a65c_add_72be8_14 hke hkv hfit (by rw [hgN]; exact vp_in_nI hn (by omega)) ?_
  rw [nI_clamp (show n < 2 ^ 31 by omega)]
  refine rb_aload_n C dJx4a65c_add_72be8_15 rfl ?_
  refine rb_iload_n C dJx4a65c_add_72be8_16 rfl ?_
  refine rb_iconst C dJx4a65c_add_72be8_17 (v := 1) (by decide) ?_
  refine rb_iadd C dJx4a65c_add_72be8_18 ?_
  rw [nI_1]
  refine rb_putI C F_Jx4a65c_48 dJx4a65c_add_72be8_19 hk ⟨rfl, rfl⟩ ?_
  exact rb_vret C E dJx4a65c_add_72be8_22 (Nat.le_of_ble_eq_true rfl) (Nat.le_of_ble_eq_true rfl) ⟨rfl, rfl⟩
set_option maxRecDepth 100000 in
set_option maxHeartbeats 4000000 in
theorem c_add3A (l : Launch) (X : rb_X) (r v e1 : rb_R) (ci : Nat) (G : rb_G) (hk : rb_k r.1 = 0) (hke1 : rb_k e1.1 = 13) (hf : ¬ gD G e1) (hkv : rb_k v.1 = ci) (hfit : rb_fit2 13 ci) (hp : gP G r 1 = some (19, 0, 0)) (hsz : gI G r 2 = 0) (hD : gD G (19, 0, 0)) : rb_N l X yJx4a65c_add_72be8 (.code yJx4a65c_add_72be8 cJx4a65c_add_72be8 4 none) 3 67 1 10 [rbR r, rbR v, rbR (19, 0, 0), rbI 0] G (fun v9 G' => v9 = none ∧ G' = sI (sP (sP (sN G e1 10) r 1 (some e1)) e1 0 (some v)) r 2 1) := by
  refine rb_startN RJx4a65c rfl (by decide +kernel) rfl (Nat.le_of_ble_eq_true rfl) ?_
  intro Φ C E nm
  show rb_W Φ 0 0 0 [some (rbR r), some (rbR v), some (rbR (19, 0, 0)), some (rbI 0)] [] G
  refine rb_iload_n C dJx4a65c_add_72be8_0 rfl ?_
  refine rb_aload_n C dJx4a65c_add_72be8_1 rfl ?_
  refine rb_alenE C dJx4a65c_add_72be8_2 ?_
  refine rb_icmp_ne C 11 dJx4a65c_add_72be8_3 (by decide) (fun h9 => absurd (rfl) h9) (fun _ => ?_)
  refine rb_aload_n C dJx4a65c_add_72be8_6 rfl ?_
  refine rb_callV C M_Jx4a65c_129 (fun l X => (c_grow0A l X r e1 G hk hke1 hf hp hsz hD).m) rfl (Nat.le_of_ble_eq_true rfl) hk dJx4a65c_add_72be8_7 rfl rfl rfl (Nat.le_of_ble_eq_true rfl) ⟨(Nat.le_of_ble_eq_true rfl), (Nat.le_of_ble_eq_true rfl)⟩ (Nat.le_of_ble_eq_true rfl) (Nat.le_of_ble_eq_true rfl) (fun v G' hp => ?_) (fun _ _ hp => hp.elim)
  obtain ⟨rfl, e9⟩ := hp
  rw [e9]
  clear e9 G'
  refine rb_astore_n C dJx4a65c_add_72be8_10 (Nat.le_of_ble_eq_true rfl) rfl (Lv' := [_, _, _, _]) rfl ?_
  refine rb_aload_n C dJx4a65c_add_72be8_11 rfl ?_
  refine rb_iload_n C dJx4a65c_add_72be8_12 rfl ?_
  refine rb_aload_n C dJx4a65c_add_72be8_13 rfl ?_
  refine rb_aast C dJx4a65c_add_72be8_14 hke1 hkv hfit (show vp_in 0 (if e1 = e1 then 10 else gN G e1) by rw [if_pos rfl]; exact vp_in_nI (n := 0) (by decide) (by decide)) ?_
  rw [show (0 : Int32).toNatClampNeg = 0 from rfl]
  refine rb_aload_n C dJx4a65c_add_72be8_15 rfl ?_
  refine rb_iload_n C dJx4a65c_add_72be8_16 rfl ?_
  refine rb_iconst C dJx4a65c_add_72be8_17 (v := 1) (by decide) ?_
  refine rb_iadd C dJx4a65c_add_72be8_18 ?_
  rw [show (0 : Int32) + 1 = 1 from rfl]
  refine rb_putI C F_Jx4a65c_48 dJx4a65c_add_72be8_19 hk ⟨rfl, rfl⟩ ?_
  exact rb_vret C E dJx4a65c_add_72be8_22 (Nat.le_of_ble_eq_true rfl) (Nat.le_of_ble_eq_true rfl) ⟨rfl, rfl⟩
set_option maxRecDepth 100000 in
set_option maxHeartbeats 4000000 in
theorem c_add3B (l : Launch) (X : rb_X) (r v e e1 : rb_R) (ci L N M : Nat) (G : rb_G) (hk : rb_k r.1 = 0) (hke : rb_k e.1 = 13) (hke1 : rb_k e1.1 = 13) (hf : ¬ gD G e1) (he : gD G e) (hgN : gN G e = L) (hL0 : 0 < L) (hkv : rb_k v.1 = ci) (hfit : rb_fit2 13 ci) (hsz : gI G r 2 = nI L) (hNe : N = L + (if 1 < L / 2 then L / 2 else 1)) (hN : N < 100000) (hNM : N ≤ M) (hel : ∀ i, i < L → ∀ y, gP G e i = some y → rb_k y.1 = 2 ∨ rb_k y.1 = 7 ∨ rb_k y.1 = 4 ∨ rb_k y.1 = 5) (hD : gD G (21, 0, 0)) (hp : gP G r 1 = some e) : rb_N l X yJx4a65c_add_72be8 (.code yJx4a65c_add_72be8 cJx4a65c_add_72be8 4 none) 5 111 1 M [rbR r, rbR v, rbR e, rbI (nI L)] G (fun v9 G' => v9 = none ∧ G' = sI (sP (sP (sQ (sN G e1 N) e1 (fun j => if j < L then gP G e j else none)) r 1 (some e1)) e1 L (some v)) r 2 (nI (L + 1))) := by
  have hLN1 : L < N := by rw [hNe]; split <;> omega
  refine rb_startN RJx4a65c rfl (by decide +kernel) rfl (Nat.le_of_ble_eq_true rfl) ?_
  intro Φ C E nm
  show rb_W Φ 0 0 0 [some (rbR r), some (rbR v), some (rbR e), some (rbI (nI L))] [] G
  refine rb_iload_n C dJx4a65c_add_72be8_0 rfl ?_
  refine rb_aload_n C dJx4a65c_add_72be8_1 rfl ?_
  refine rb_alen C dJx4a65c_add_72be8_2 hke (by decide) (by decide) ?_
  rw [hgN]
  refine rb_icmp_ne C 11 dJx4a65c_add_72be8_3 (by decide) (fun h9 => absurd (rfl) h9) (fun _ => ?_)
  refine rb_aload_n C dJx4a65c_add_72be8_6 rfl ?_
  refine rb_callV C M_Jx4a65c_129 (fun l X => (c_grow0B l X r e e1 L N M G hk hke hke1 hf he hgN hL0 hsz hNe hN hNM hel hD hp).m) rfl (Nat.le_of_ble_eq_true rfl) hk dJx4a65c_add_72be8_7 rfl rfl rfl (Nat.le_of_ble_eq_true rfl) ⟨(Nat.le_of_ble_eq_true rfl), (Nat.le_of_ble_eq_true rfl)⟩ (Nat.le_of_ble_eq_true rfl) (by omega) (fun v G' hp => ?_) (fun _ _ hp => hp.elim)
  obtain ⟨rfl, e9⟩ := hp
  rw [e9]
  clear e9 G'
  refine rb_astore_n C dJx4a65c_add_72be8_10 (Nat.le_of_ble_eq_true rfl) rfl (Lv' := [_, _, _, _]) rfl ?_
  refine rb_aload_n C dJx4a65c_add_72be8_11 rfl ?_
  refine rb_iload_n C dJx4a65c_add_72be8_12 rfl ?_
  refine rb_aload_n C dJx4a65c_add_72be8_13 rfl ?_
  refine rb_aast C dJx4a65c_add_72be8_14 hke1 hkv hfit (show vp_in (nI L) (if e1 = e1 then N else gN G e1) by rw [if_pos rfl]; exact vp_in_nI hLN1 (by omega)) ?_
  rw [nI_clamp (show L < 2 ^ 31 by omega)]
  refine rb_aload_n C dJx4a65c_add_72be8_15 rfl ?_
  refine rb_iload_n C dJx4a65c_add_72be8_16 rfl ?_
  refine rb_iconst C dJx4a65c_add_72be8_17 (v := 1) (by decide) ?_
  refine rb_iadd C dJx4a65c_add_72be8_18 ?_
  rw [nI_1]
  refine rb_putI C F_Jx4a65c_48 dJx4a65c_add_72be8_19 hk ⟨rfl, rfl⟩ ?_
  exact rb_vret C E dJx4a65c_add_72be8_22 (Nat.le_of_ble_eq_true rfl) (by omega) ⟨rfl, rfl⟩
set_option maxRecDepth 100000 in
set_option maxHeartbeats 4000000 in
theorem c_add1a (l : Launch) (X : rb_X) (r v e : rb_R) (ci n L : Nat) (G : rb_G) (hp : gP G r 1 = some e) (hsz : gI G r 2 = nI n) (mc9 : Int32) (hmc : gI G r 0 + 1 = mc9) (hk : rb_k r.1 = 0) (hke : rb_k e.1 = 13) (hkv : rb_k v.1 = ci) (hfit : rb_fit2 13 ci) (hgN : gN G e = L) (hn : n < L) (hL : L < 100000) : rb_N l X yJx4a65c_add_9ea2d (.code yJx4a65c_add_9ea2d cJx4a65c_add_9ea2d 2 (some .boolean)) 2 35 0 0 [rbR r, rbR v] G (fun v9 G' => v9 = some (rbI 1) ∧ G' = sI (sP (sI G r 0 mc9) e n (some v)) r 2 (nI (n + 1))) := by
  refine rb_startN RJx4a65c rfl (by decide +kernel) rfl (Nat.le_of_ble_eq_true rfl) ?_
  intro Φ C E nm
  show rb_W Φ 0 0 0 [some (rbR r), some (rbR v)] [] G
  refine rb_aload_n C dJx4a65c_add_9ea2d_0 rfl ?_
  refine rb_dup C dJx4a65c_add_9ea2d_1 rfl ?_
  refine rb_getMC C dJx4a65c_add_9ea2d_2 hk ?_
  refine rb_iconst C dJx4a65c_add_9ea2d_5 (v := 1) (by decide) ?_
  refine rb_iadd C dJx4a65c_add_9ea2d_6 ?_
  rw [hmc]
  refine rb_putMC C dJx4a65c_add_9ea2d_7 hk ?_
  refine rb_aload_n C dJx4a65c_add_9ea2d_10 rfl ?_
  refine rb_aload_n C dJx4a65c_add_9ea2d_11 rfl ?_
  refine rb_aload_n C dJx4a65c_add_9ea2d_12 rfl ?_
  refine rb_getP C FR_Jx4a65c_9 dJx4a65c_add_9ea2d_13 hk (o := some e) hp ?_
  refine rb_aload_n C dJx4a65c_add_9ea2d_16 rfl ?_
  refine rb_getI C FR_Jx4a65c_48 dJx4a65c_add_9ea2d_17 hk ?_
  rw [show gI (sI G r 0 mc9) r 2 = gI G r 2 from up2_n _ _ _ _ (fun q => absurd q.2 (by decide)), hsz]
  refine rb_callV C M_Jx4a65c_131 (fun l X => (c_add3a l X r v e ci n L (sI G r 0 mc9) hk hke hkv hfit hgN hn hL).m) rfl (Nat.le_of_ble_eq_true rfl) hk dJx4a65c_add_9ea2d_20 rfl rfl rfl (Nat.le_of_ble_eq_true rfl) ⟨(Nat.le_of_ble_eq_true rfl), (Nat.le_of_ble_eq_true rfl)⟩ (Nat.le_of_ble_eq_true rfl) (Nat.le_of_ble_eq_true rfl) (fun v G' hp => ?_) (fun _ _ hp => hp.elim)
  obtain ⟨rfl, e9⟩ := hp
  rw [e9]
  clear e9 G'
  refine rb_iconst C dJx4a65c_add_9ea2d_23 (v := 1) (by decide) ?_
  exact rb_zret C E dJx4a65c_add_9ea2d_24 (rfl) (Nat.le_of_ble_eq_true rfl) (Nat.le_of_ble_eq_true rfl) (⟨rfl, rfl⟩)
set_option maxRecDepth 100000 in
set_option maxHeartbeats 4000000 in
theorem c_add1A (l : Launch) (X : rb_X) (r v e1 : rb_R) (ci : Nat) (G : rb_G) (mc9 : Int32) (hmc : gI G r 0 + 1 = mc9) (hk : rb_k r.1 = 0) (hke1 : rb_k e1.1 = 13) (hf : ¬ gD G e1) (hkv : rb_k v.1 = ci) (hfit : rb_fit2 13 ci) (hp : gP G r 1 = some (19, 0, 0)) (hsz : gI G r 2 = 0) (hD : gD G (19, 0, 0)) : rb_N l X yJx4a65c_add_9ea2d (.code yJx4a65c_add_9ea2d cJx4a65c_add_9ea2d 2 (some .boolean)) 4 90 1 10 [rbR r, rbR v] G (fun v9 G' => v9 = some (rbI 1) ∧ G' = sI (sP (sP (sN (sI G r 0 mc9) e1 10) r 1 (some e1)) e1 0 (some v)) r 2 1) := by
  refine rb_startN RJx4a65c rfl (by decide +kernel) rfl (Nat.le_of_ble_eq_true rfl) ?_
  intro Φ C E nm
  show rb_W Φ 0 0 0 [some (rbR r), some (rbR v)] [] G
  refine rb_aload_n C dJx4a65c_add_9ea2d_0 rfl ?_
  refine rb_dup C dJx4a65c_add_9ea2d_1 rfl ?_
  refine rb_getMC C dJx4a65c_add_9ea2d_2 hk ?_
  refine rb_iconst C dJx4a65c_add_9ea2d_5 (v := 1) (by decide) ?_
  refine rb_iadd C dJx4a65c_add_9ea2d_6 ?_
  rw [hmc]
  refine rb_putMC C dJx4a65c_add_9ea2d_7 hk ?_
  refine rb_aload_n C dJx4a65c_add_9ea2d_10 rfl ?_
  refine rb_aload_n C dJx4a65c_add_9ea2d_11 rfl ?_
  refine rb_aload_n C dJx4a65c_add_9ea2d_12 rfl ?_
  refine rb_getP C FR_Jx4a65c_9 dJx4a65c_add_9ea2d_13 hk (o := some (19, 0, 0)) hp ?_
  refine rb_aload_n C dJx4a65c_add_9ea2d_16 rfl ?_
  refine rb_getI C FR_Jx4a65c_48 dJx4a65c_add_9ea2d_17 hk ?_
  rw [show gI (sI G r 0 mc9) r 2 = gI G r 2 from up2_n _ _ _ _ (fun q => absurd q.2 (by decide)), hsz]
  refine rb_callV C M_Jx4a65c_131 (fun l X => (c_add3A l X r v e1 ci (sI G r 0 mc9) hk hke1 hf hkv hfit hp (by rw [show gI (sI G r 0 mc9) r 2 = gI G r 2 from up2_n _ _ _ _ (fun q => absurd q.2 (by decide)), hsz]) hD).m) rfl (Nat.le_of_ble_eq_true rfl) hk dJx4a65c_add_9ea2d_20 rfl rfl rfl (Nat.le_of_ble_eq_true rfl) ⟨(Nat.le_of_ble_eq_true rfl), (Nat.le_of_ble_eq_true rfl)⟩ (Nat.le_of_ble_eq_true rfl) (Nat.le_of_ble_eq_true rfl) (fun v G' hp => ?_) (fun _ _ hp => hp.elim)
  obtain ⟨rfl, e9⟩ := hp
  rw [e9]
  clear e9 G'
  refine rb_iconst C dJx4a65c_add_9ea2d_23 (v := 1) (by decide) ?_
  exact rb_zret C E dJx4a65c_add_9ea2d_24 (rfl) (Nat.le_of_ble_eq_true rfl) (Nat.le_of_ble_eq_true rfl) (⟨rfl, rfl⟩)
set_option maxRecDepth 100000 in
set_option maxHeartbeats 4000000 in
theorem c_add1B (l : Launch) (X : rb_X) (r v e e1 : rb_R) (ci L N M : Nat) (G : rb_G) (mc9 : Int32) (hmc : gI G r 0 + 1 = mc9) (hk : rb_k r.1 = 0) (hke : rb_k e.1 = 13) (hke1 : rb_k e1.1 = 13) (hf : ¬ gD G e1) (he : gD G e) (hgN : gN G e = L) (hL0 : 0 < L) (hkv : rb_k v.1 = ci) (hfit : rb_fit2 13 ci) (hsz : gI G r 2 = nI L) (hNe : N = L + (if 1 < L / 2 then L / 2 else 1)) (hN : N < 100000) (hNM : N ≤ M) (hel : ∀ i, i < L → ∀ y, gP G e i = some y → rb_k y.1 = 2 ∨ rb_k y.1 = 7 ∨ rb_k y.1 = 4 ∨ rb_k y.1 = 5) (hD : gD G (21, 0, 0)) (hp : gP G r 1 = some e) : rb_N l X yJx4a65c_add_9ea2d (.code yJx4a65c_add_9ea2d cJx4a65c_add_9ea2d 2 (some .boolean)) 6 134 1 M [rbR r, rbR v] G (fun v9 G' => v9 = some (rbI 1) ∧ G' = sI (sP (sP (sQ (sN (sI G r 0 mc9) e1 N) e1 (fun j => if j < L then gP G e j else none)) r 1 (some e1)) e1 L (some v)) r 2 (nI (L + 1))) := by
  refine rb_startN RJx4a65c rfl (by decide +kernel) rfl (Nat.le_of_ble_eq_true rfl) ?_
  intro Φ C E nm
  show rb_W Φ 0 0 0 [some (rbR r), some (rbR v)] [] G
  refine rb_aload_n C dJx4a65c_add_9ea2d_0 rfl ?_
  refine rb_dup C dJx4a65c_add_9ea2d_1 rfl ?_
  refine rb_getMC C dJx4a65c_add_9ea2d_2 hk ?_
  refine rb_iconst C dJx4a65c_add_9ea2d_5 (v := 1) (by decide) ?_
  refine rb_iadd C dJx4a65c_add_9ea2d_6 ?_
  rw [hmc]
  refine rb_putMC C dJx4a65c_add_9ea2d_7 hk ?_
  refine rb_aload_n C dJx4a65c_add_9ea2d_10 rfl ?_
  refine rb_aload_n C dJx4a65c_add_9ea2d_11 rfl ?_
  refine rb_aload_n C dJx4a65c_add_9ea2d_12 rfl ?_
  refine rb_getP C FR_Jx4a65c_9 dJx4a65c_add_9ea2d_13 hk (o := some e) hp ?_
  refine rb_aload_n C dJx4a65c_add_9ea2d_16 rfl ?_
  refine rb_getI C FR_Jx4a65c_48 dJx4a65c_add_9ea2d_17 hk ?_
  rw [show gI (sI G r 0 mc9) r 2 = gI G r 2 from up2_n _ _ _ _ (fun q => absurd q.2 (by decide)), hsz]
  refine rb_callV C M_Jx4a65c_131 (fun l X => (c_add3B l X r v e e1 ci L N M (sI G r 0 mc9) hk hke hke1 hf he hgN hL0 hkv hfit (by rw [show gI (sI G r 0 mc9) r 2 = gI G r 2 from up2_n _ _ _ _ (fun q => absurd q.2 (by decide)), hsz]) hNe hN hNM hel hD hp).m) rfl (Nat.le_of_ble_eq_true rfl) hk dJx4a65c_add_9ea2d_20 rfl rfl rfl (Nat.le_of_ble_eq_true rfl) ⟨(Nat.le_of_ble_eq_true rfl), (Nat.le_of_ble_eq_true rfl)⟩ (Nat.le_of_ble_eq_true rfl) (by omega) (fun v G' hp => ?_) (fun _ _ hp => hp.elim)
  obtain ⟨rfl, e9⟩ := hp
  rw [e9]
  clear e9 G'
  refine rb_iconst C dJx4a65c_add_9ea2d_23 (v := 1) (by decide) ?_
  exact rb_zret C E dJx4a65c_add_9ea2d_24 rfl (Nat.le_of_ble_eq_true rfl) (by omega) ⟨rfl, rfl⟩
