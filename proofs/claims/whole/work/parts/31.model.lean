def m_in (v : Int32) (low : Int32) (high : Int32) : Int32 := (if v < low then (0 : Int32) else (if high < v then (0 : Int32) else (1 : Int32)))
theorem z_m_in (v : Int32) (low : Int32) (high : Int32) : m_in v low high = 0 ∨ m_in v low high = 1 := by
  unfold m_in
  repeat' split
  all_goals first | exact Or.inl rfl | exact Or.inr rfl
set_option maxRecDepth 100000 in
set_option maxHeartbeats 4000000 in
theorem k_X8_in (l : Launch) (X : rb_X) (G : rb_G) (W : rb_I) (v : Int32) (low : Int32) (high : Int32)  : rb_N l X yX8_in (.code yX8_in cX8_in 3 (some .boolean)) 1 12 0 0 [rbI v, rbI low, rbI high] (wI G W) (fun v9 G9 => v9 = some (rbI (m_in v low high)) ∧ G9 = wI G W) := by
  refine rb_startN RX8 rfl (by decide +kernel) rfl (Nat.le_of_ble_eq_true rfl) ?_
  intro Φ C E nm
  show rb_W Φ 0 0 0 [some (rbI v), some (rbI low), some (rbI high)] [] (wI G W)
  refine rb_iload_n C dX8_in_0 rfl ?_
  refine rb_iload_n C dX8_in_1 rfl ?_
  refine rb_icmp_lt C 14 dX8_in_2 (by decide) (fun h2 => ?_) (fun h2 => ?_)
  · refine rb_iconst C dX8_in_14 (v := 0) (by decide) ?_
    exact rb_zret C E dX8_in_15 (rfl) (Nat.le_of_ble_eq_true rfl) (Nat.le_of_ble_eq_true rfl) (pv_ ((if_pos h2).trans (rfl)))
  · refine rb_iload_n C dX8_in_5 rfl ?_
    refine rb_iload_n C dX8_in_6 rfl ?_
    refine rb_icmp_gt C 14 dX8_in_7 (by decide) (fun h7 => ?_) (fun h7 => ?_)
    · refine rb_iconst C dX8_in_14 (v := 0) (by decide) ?_
      exact rb_zret C E dX8_in_15 (rfl) (Nat.le_of_ble_eq_true rfl) (Nat.le_of_ble_eq_true rfl) (pv_ ((if_neg h2).trans ((if_pos h7).trans (rfl))))
    · refine rb_iconst C dX8_in_10 (v := 1) (by decide) ?_
      refine rb_goto C 15 dX8_in_11 (by decide) ?_
      exact rb_zret C E dX8_in_15 (rfl) (Nat.le_of_ble_eq_true rfl) (Nat.le_of_ble_eq_true rfl) (pv_ ((if_neg h2).trans ((if_neg h7).trans (rfl))))

def m_isNetwork (n : Int32) : Int32 := (m_in n (0 : Int32) (5 : Int32))
theorem z_m_isNetwork (n : Int32) : m_isNetwork n = 0 ∨ m_isNetwork n = 1 := by
  unfold m_isNetwork
  repeat' split
  all_goals first | exact Or.inl rfl | exact Or.inr rfl | exact z_m_in n (0 : Int32) (5 : Int32)
set_option maxRecDepth 100000 in
set_option maxHeartbeats 4000000 in
theorem k_X8_isNetwork (l : Launch) (X : rb_X) (G : rb_G) (W : rb_I) (n : Int32)  : rb_N l X yX8_isNetwork (.code yX8_isNetwork cX8_isNetwork 1 (some .boolean)) 2 34 0 0 [rbI n] (wI G W) (fun v9 G9 => v9 = some (rbI (m_isNetwork n)) ∧ G9 = wI G W) := by
  refine rb_startN RX8 rfl (by decide +kernel) rfl (Nat.le_of_ble_eq_true rfl) ?_
  intro Φ C E nm
  show rb_W Φ 0 0 0 [some (rbI n)] [] (wI G W)
  refine rb_iload_n C dX8_isNetwork_0 rfl ?_
  refine rb_iconst C dX8_isNetwork_1 (v := 0) (by decide) ?_
  refine rb_iconst C dX8_isNetwork_2 (v := 5) (by decide) ?_
  refine rb_callS C M_X8_114 (fun l X => (k_X8_in l X G W n (0 : Int32) (5 : Int32)).m) dX8_isNetwork_3 rfl rfl rfl (Nat.le_of_ble_eq_true rfl) ⟨(Nat.le_of_ble_eq_true rfl), (Nat.le_of_ble_eq_true rfl)⟩ (Nat.le_of_ble_eq_true rfl) (Nat.le_of_ble_eq_true rfl) (fun v G' hp => ?_) (fun _ _ hp => hp.elim)
  obtain ⟨rfl, e9⟩ := hp
  rw [e9]
  clear e9 G'
  exact rb_zret C E dX8_isNetwork_6 (nz_ (z_m_in n (0 : Int32) (5 : Int32))) (Nat.le_of_ble_eq_true rfl) (Nat.le_of_ble_eq_true rfl) (pv_ (rfl))

def m_isPlace (p : Int32) : Int32 := (m_in p (0 : Int32) (7 : Int32))
theorem z_m_isPlace (p : Int32) : m_isPlace p = 0 ∨ m_isPlace p = 1 := by
  unfold m_isPlace
  repeat' split
  all_goals first | exact Or.inl rfl | exact Or.inr rfl | exact z_m_in p (0 : Int32) (7 : Int32)
set_option maxRecDepth 100000 in
set_option maxHeartbeats 4000000 in
theorem k_X8_isPlace (l : Launch) (X : rb_X) (G : rb_G) (W : rb_I) (p : Int32)  : rb_N l X yX8_isPlace (.code yX8_isPlace cX8_isPlace 1 (some .boolean)) 2 34 0 0 [rbI p] (wI G W) (fun v9 G9 => v9 = some (rbI (m_isPlace p)) ∧ G9 = wI G W) := by
  refine rb_startN RX8 rfl (by decide +kernel) rfl (Nat.le_of_ble_eq_true rfl) ?_
  intro Φ C E nm
  show rb_W Φ 0 0 0 [some (rbI p)] [] (wI G W)
  refine rb_iload_n C dX8_isPlace_0 rfl ?_
  refine rb_iconst C dX8_isPlace_1 (v := 0) (by decide) ?_
  refine rb_bipush C dX8_isPlace_2 (v := 7) (by decide) ?_
  refine rb_callS C M_X8_114 (fun l X => (k_X8_in l X G W p (0 : Int32) (7 : Int32)).m) dX8_isPlace_4 rfl rfl rfl (Nat.le_of_ble_eq_true rfl) ⟨(Nat.le_of_ble_eq_true rfl), (Nat.le_of_ble_eq_true rfl)⟩ (Nat.le_of_ble_eq_true rfl) (Nat.le_of_ble_eq_true rfl) (fun v G' hp => ?_) (fun _ _ hp => hp.elim)
  obtain ⟨rfl, e9⟩ := hp
  rw [e9]
  clear e9 G'
  exact rb_zret C E dX8_isPlace_7 (nz_ (z_m_in p (0 : Int32) (7 : Int32))) (Nat.le_of_ble_eq_true rfl) (Nat.le_of_ble_eq_true rfl) (pv_ (rfl))

def m_isIn (a : Int32) (k : Int32) : Int32 := (if ((a >>> (k &&& 31)) &&& 1) = 1 then (1 : Int32) else (0 : Int32))
theorem z_m_isIn (a : Int32) (k : Int32) : m_isIn a k = 0 ∨ m_isIn a k = 1 := by
  unfold m_isIn
  repeat' split
  all_goals first | exact Or.inl rfl | exact Or.inr rfl
set_option maxRecDepth 100000 in
set_option maxHeartbeats 4000000 in
theorem k_X8_isIn (l : Launch) (X : rb_X) (G : rb_G) (W : rb_I) (a : Int32) (k : Int32)  : rb_N l X yX8_isIn (.code yX8_isIn cX8_isIn 2 (some .boolean)) 1 12 0 0 [rbI a, rbI k] (wI G W) (fun v9 G9 => v9 = some (rbI (m_isIn a k)) ∧ G9 = wI G W) := by
  refine rb_startN RX8 rfl (by decide +kernel) rfl (Nat.le_of_ble_eq_true rfl) ?_
  intro Φ C E nm
  show rb_W Φ 0 0 0 [some (rbI a), some (rbI k)] [] (wI G W)
  refine rb_iload_n C dX8_isIn_0 rfl ?_
  refine rb_iload_n C dX8_isIn_1 rfl ?_
  refine rb_ishr C dX8_isIn_2 ?_
  refine rb_iconst C dX8_isIn_3 (v := 1) (by decide) ?_
  refine rb_iand C dX8_isIn_4 ?_
  refine rb_iconst C dX8_isIn_5 (v := 1) (by decide) ?_
  refine rb_icmp_ne C 13 dX8_isIn_6 (by decide) (fun h6 => ?_) (fun h6 => ?_)
  · refine rb_iconst C dX8_isIn_13 (v := 0) (by decide) ?_
    exact rb_zret C E dX8_isIn_14 (rfl) (Nat.le_of_ble_eq_true rfl) (Nat.le_of_ble_eq_true rfl) (pv_ ((if_neg h6).trans (rfl)))
  · refine rb_iconst C dX8_isIn_9 (v := 1) (by decide) ?_
    refine rb_goto C 14 dX8_isIn_10 (by decide) ?_
    exact rb_zret C E dX8_isIn_14 (rfl) (Nat.le_of_ble_eq_true rfl) (Nat.le_of_ble_eq_true rfl) (pv_ ((if_pos h6).trans (rfl)))

def m_isSubscriber (W : rb_I) (s : Int32) : Int32 := (m_in s (0 : Int32) ((W (16, 0, 0) 15) - 1))
theorem z_m_isSubscriber (W : rb_I) (s : Int32) : m_isSubscriber W s = 0 ∨ m_isSubscriber W s = 1 := by
  unfold m_isSubscriber
  repeat' split
  all_goals first | exact Or.inl rfl | exact Or.inr rfl | exact z_m_in s (0 : Int32) ((W (16, 0, 0) 15) - 1)
set_option maxRecDepth 100000 in
set_option maxHeartbeats 4000000 in
theorem k_X8_isSubscriber (l : Launch) (X : rb_X) (G : rb_G) (W : rb_I) (s : Int32)  : rb_N l X yX8_isSubscriber (.code yX8_isSubscriber cX8_isSubscriber 2 (some .boolean)) 2 34 0 0 [rbR (16, 0, 0), rbI s] (wI G W) (fun v9 G9 => v9 = some (rbI (m_isSubscriber W s)) ∧ G9 = wI G W) := by
  refine rb_startN RX8 rfl (by decide +kernel) rfl (Nat.le_of_ble_eq_true rfl) ?_
  intro Φ C E nm
  show rb_W Φ 0 0 0 [some (rbR (16, 0, 0)), some (rbI s)] [] (wI G W)
  refine rb_iload_n C dX8_isSubscriber_0 rfl ?_
  refine rb_iconst C dX8_isSubscriber_1 (v := 0) (by decide) ?_
  refine rb_aload_n C dX8_isSubscriber_2 rfl ?_
  refine rw_getI C FR_X8_118 dX8_isSubscriber_3 rfl (x := (W (16, 0, 0) 15)) (rfl) ?_
  refine rb_iconst C dX8_isSubscriber_6 (v := 1) (by decide) ?_
  refine rb_isub C dX8_isSubscriber_7 ?_
  refine rb_callS C M_X8_114 (fun l X => (k_X8_in l X G W s (0 : Int32) ((W (16, 0, 0) 15) - 1)).m) dX8_isSubscriber_8 rfl rfl rfl (Nat.le_of_ble_eq_true rfl) ⟨(Nat.le_of_ble_eq_true rfl), (Nat.le_of_ble_eq_true rfl)⟩ (Nat.le_of_ble_eq_true rfl) (Nat.le_of_ble_eq_true rfl) (fun v G' hp => ?_) (fun _ _ hp => hp.elim)
  obtain ⟨rfl, e9⟩ := hp
  rw [e9]
  clear e9 G'
  exact rb_zret C E dX8_isSubscriber_11 (nz_ (z_m_in s (0 : Int32) ((W (16, 0, 0) 15) - 1))) (Nat.le_of_ble_eq_true rfl) (Nat.le_of_ble_eq_true rfl) (pv_ (rfl))

def m_thrown (W : rb_I)  : Int32 := (W (16, 0, 0) 0)
set_option maxRecDepth 100000 in
set_option maxHeartbeats 4000000 in
theorem k_X8_thrown (l : Launch) (X : rb_X) (G : rb_G) (W : rb_I)   : rb_N l X yX8_thrown (.code yX8_thrown cX8_thrown 1 (some .int)) 1 12 0 0 [rbR (16, 0, 0)] (wI G W) (fun v9 G9 => v9 = some (rbI (m_thrown W)) ∧ G9 = wI G W) := by
  refine rb_startN RX8 rfl (by decide +kernel) rfl (Nat.le_of_ble_eq_true rfl) ?_
  intro Φ C E nm
  show rb_W Φ 0 0 0 [some (rbR (16, 0, 0))] [] (wI G W)
  refine rb_aload_n C dX8_thrown_0 rfl ?_
  refine rw_getI C FR_X8_110 dX8_thrown_1 rfl (x := (W (16, 0, 0) 0)) (rfl) ?_
  exact rb_iret C E dX8_thrown_4 (Nat.le_of_ble_eq_true rfl) (Nat.le_of_ble_eq_true rfl) (pv_ (rfl))

theorem in_of {v low high : Int32} {n : Nat} (hh : high.toInt < n) (hl : low = 0) (h : ¬ m_in v low high = 0) : vp_in v n := by
  subst hl
  unfold m_in at h
  split at h
  · exact absurd rfl h
  · split at h
    · exact absurd rfl h
    · rename_i h1 h2
      obtain ⟨j, hj, e⟩ := nI_of h1
      subst e
      have h3 : ¬ high.toInt < (nI j).toInt := fun q => h2 (Int32.lt_iff_toInt_lt.mpr q)
      rw [nI_toInt hj] at h3
      intro q
      rcases q with q | q
      · exact h1 q
      · rw [nI_clamp hj] at q
        omega
theorem isNetwork_in {x : Int32} (h : ¬ m_isNetwork x = 0) : vp_in x 6 := in_of (by decide) rfl h
theorem isPlace_in {x : Int32} (h : ¬ m_isPlace x = 0) : vp_in x 8 := in_of (by decide) rfl h
def at6 (x : Int32) : Prop := x = -1 ∨ vp_in x 6
def MI (W : rb_I) : Prop := (∀ s, vp_in (W (14, 16, 0) s) 6) ∧ (∀ s, vp_in (W (14, 17, 0) s) 8) ∧ (∀ s, at6 (W (14, 19, 0) s)) ∧ (∀ s, at6 (W (14, 21, 0) s)) ∧ (∀ n, at6 (W (14, 4, 0) n)) ∧ (∀ r, W (14, 34, 0) r = -1 ∨ vp_in (W (14, 34, 0) r) 30) ∧ vp_in (W (16, 0, 0) 7) 31 ∧ vp_in (W (16, 0, 0) 15) 11 ∧ vp_in (W (16, 0, 0) 28) 201 ∧ vp_in (W (16, 0, 0) 29) 401 ∧ ∀ k, W (15, 3, 0) k = 0 ∨ W (15, 3, 0) k = 1
theorem isSub_in {W : rb_I} (hM : MI W) {s : Int32} (h : ¬ m_isSubscriber W s = 0) : vp_in s 10 := by
  have hv := hM.2.2.2.2.2.2.2.1
  refine in_of (high := W (16, 0, 0) 15 - 1) ?_ rfl h
  have h1 := vp_in_lt hv
  rw [vp_in_e hv]
  rw [show (1 : Int32) = nI 1 from rfl, pk_sub_toInt (by omega) (by decide)]
  omega
theorem cnt_le {x : Int32} {n : Nat} (h : vp_in x n) : x ≤ nI x.toNatClampNeg := by
  rw [← vp_in_e h]
  exact Int32.le_refl _
theorem cnt_nle {x : Int32} {n i : Nat} (h : vp_in x n) (hn : n < 2 ^ 31) (hi : i < x.toNatClampNeg) : ¬ x ≤ nI i := by
  have h1 := vp_in_lt h
  rw [vp_in_e h]
  exact nI_ge hi (by omega)
theorem mi_thr {W : rb_I} (v : Int32) (hM : MI W) : MI (up2 W (16, 0, 0) 0 v) := by
  unfold MI at *
  simpa [up2] using hM
def m_isAbroad (W : rb_I) (s : Int32) : Int32 := (if (W (14, 19, 0) s.toNatClampNeg) = (W (14, 16, 0) s.toNatClampNeg) then (0 : Int32) else (1 : Int32))
theorem z_m_isAbroad (W : rb_I) (s : Int32) : m_isAbroad W s = 0 ∨ m_isAbroad W s = 1 := by
  unfold m_isAbroad
  repeat' split
  all_goals first | exact Or.inl rfl | exact Or.inr rfl
set_option maxRecDepth 100000 in
set_option maxHeartbeats 4000000 in
theorem k_X8_isAbroad (l : Launch) (X : rb_X) (G : rb_G) (W : rb_I) (s : Int32) (hm : MS G) (hs : vp_in s 10) : rb_N l X yX8_isAbroad (.code yX8_isAbroad cX8_isAbroad 2 (some .boolean)) 1 12 0 0 [rbR (16, 0, 0), rbI s] (wI G W) (fun v9 G9 => v9 = some (rbI (m_isAbroad W s)) ∧ G9 = wI G W) := by
  refine rb_startN RX8 rfl (by decide +kernel) rfl (Nat.le_of_ble_eq_true rfl) ?_
  intro Φ C E nm
  show rb_W Φ 0 0 0 [some (rbR (16, 0, 0)), some (rbI s)] [] (wI G W)
  refine rb_aload_n C dX8_isAbroad_0 rfl ?_
  refine rw_getP C FR_X8_56 dX8_isAbroad_1 rfl (o := some (14, 19, 0)) (hm.1 19 (by decide)) ?_
  refine rb_iload_n C dX8_isAbroad_4 rfl ?_
  refine rw_iald C (x := (W (14, 19, 0) s.toNatClampNeg)) 10 s.toNatClampNeg dX8_isAbroad_5 rfl (hm.2 19 (by decide)) hs rfl (rfl) ?_
  refine rb_aload_n C dX8_isAbroad_6 rfl ?_
  refine rw_getP C FR_X8_47 dX8_isAbroad_7 rfl (o := some (14, 16, 0)) (hm.1 16 (by decide)) ?_
  refine rb_iload_n C dX8_isAbroad_10 rfl ?_
  refine rw_iald C (x := (W (14, 16, 0) s.toNatClampNeg)) 10 s.toNatClampNeg dX8_isAbroad_11 rfl (hm.2 16 (by decide)) hs rfl (rfl) ?_
  refine rb_icmp_eq C 19 dX8_isAbroad_12 (by decide) (fun h12 => ?_) (fun h12 => ?_)
  · refine rb_iconst C dX8_isAbroad_19 (v := 0) (by decide) ?_
    exact rb_zret C E dX8_isAbroad_20 (rfl) (Nat.le_of_ble_eq_true rfl) (Nat.le_of_ble_eq_true rfl) (pv_ ((if_pos h12).trans (rfl)))
  · refine rb_iconst C dX8_isAbroad_15 (v := 1) (by decide) ?_
    refine rb_goto C 20 dX8_isAbroad_16 (by decide) ?_
    exact rb_zret C E dX8_isAbroad_20 (rfl) (Nat.le_of_ble_eq_true rfl) (Nat.le_of_ble_eq_true rfl) (pv_ ((if_neg h12).trans (rfl)))

def m_abroadOf (W : rb_I) (s : Int32) : Int32 := (if (W (14, 25, 0) s.toNatClampNeg) = ((W (16, 0, 0) 1) / (43200)) then (W (14, 26, 0) s.toNatClampNeg) else (0 : Int32))
set_option maxRecDepth 100000 in
set_option maxHeartbeats 4000000 in
theorem k_X8_abroadOf (l : Launch) (X : rb_X) (G : rb_G) (W : rb_I) (s : Int32) (hm : MS G) (hs : vp_in s 10) : rb_N l X yX8_abroadOf (.code yX8_abroadOf cX8_abroadOf 2 (some .int)) 1 12 0 0 [rbR (16, 0, 0), rbI s] (wI G W) (fun v9 G9 => v9 = some (rbI (m_abroadOf W s)) ∧ G9 = wI G W) := by
  refine rb_startN RX8 rfl (by decide +kernel) rfl (Nat.le_of_ble_eq_true rfl) ?_
  intro Φ C E nm
  show rb_W Φ 0 0 0 [some (rbR (16, 0, 0)), some (rbI s)] [] (wI G W)
  refine rb_aload_n C dX8_abroadOf_0 rfl ?_
  refine rw_getP C FR_X8_74 dX8_abroadOf_1 rfl (o := some (14, 25, 0)) (hm.1 25 (by decide)) ?_
  refine rb_iload_n C dX8_abroadOf_4 rfl ?_
  refine rw_iald C (x := (W (14, 25, 0) s.toNatClampNeg)) 10 s.toNatClampNeg dX8_abroadOf_5 rfl (hm.2 25 (by decide)) hs rfl (rfl) ?_
  refine rb_aload_n C dX8_abroadOf_6 rfl ?_
  refine rw_getI C FR_X8_141 dX8_abroadOf_7 rfl (x := (W (16, 0, 0) 1)) (rfl) ?_
  refine rb_ldc C dX8_abroadOf_10 N_X8_160 ?_
  refine rb_idiv C dX8_abroadOf_12 (by decide) ?_
  refine rb_icmp_ne C 25 dX8_abroadOf_13 (by decide) (fun h13 => ?_) (fun h13 => ?_)
  · refine rb_iconst C dX8_abroadOf_25 (v := 0) (by decide) ?_
    exact rb_iret C E dX8_abroadOf_26 (Nat.le_of_ble_eq_true rfl) (Nat.le_of_ble_eq_true rfl) (pv_ ((if_neg h13).trans (rfl)))
  · refine rb_aload_n C dX8_abroadOf_16 rfl ?_
    refine rw_getP C FR_X8_77 dX8_abroadOf_17 rfl (o := some (14, 26, 0)) (hm.1 26 (by decide)) ?_
    refine rb_iload_n C dX8_abroadOf_20 rfl ?_
    refine rw_iald C (x := (W (14, 26, 0) s.toNatClampNeg)) 10 s.toNatClampNeg dX8_abroadOf_21 rfl (hm.2 26 (by decide)) hs rfl (rfl) ?_
    refine rb_goto C 26 dX8_abroadOf_22 (by decide) ?_
    exact rb_iret C E dX8_abroadOf_26 (Nat.le_of_ble_eq_true rfl) (Nat.le_of_ble_eq_true rfl) (pv_ ((if_pos h13).trans (rfl)))

def m_isAbove (W : rb_I) (s : Int32) (money : Int32) : Int32 := (if (m_isAbroad W s) = 0 then (0 : Int32) else (if (W (15, 23, 0) s.toNatClampNeg) = 0 then (if ((m_abroadOf W s) + money) ≤ (W (14, 22, 0) s.toNatClampNeg) then (0 : Int32) else (1 : Int32)) else (0 : Int32)))
theorem z_m_isAbove (W : rb_I) (s : Int32) (money : Int32) : m_isAbove W s money = 0 ∨ m_isAbove W s money = 1 := by
  unfold m_isAbove
  repeat' split
  all_goals first | exact Or.inl rfl | exact Or.inr rfl | exact z_m_isAbroad W s
set_option maxRecDepth 100000 in
set_option maxHeartbeats 4000000 in
theorem k_X8_isAbove (l : Launch) (X : rb_X) (G : rb_G) (W : rb_I) (s : Int32) (money : Int32) (hm : MS G) (hs : vp_in s 10) : rb_N l X yX8_isAbove (.code yX8_isAbove cX8_isAbove 3 (some .boolean)) 2 33 0 0 [rbR (16, 0, 0), rbI s, rbI money] (wI G W) (fun v9 G9 => v9 = some (rbI (m_isAbove W s money)) ∧ G9 = wI G W) := by
  refine rb_startN RX8 rfl (by decide +kernel) rfl (Nat.le_of_ble_eq_true rfl) ?_
  intro Φ C E nm
  show rb_W Φ 0 0 0 [some (rbR (16, 0, 0)), some (rbI s), some (rbI money)] [] (wI G W)
  refine rb_aload_n C dX8_isAbove_0 rfl ?_
  refine rb_iload_n C dX8_isAbove_1 rfl ?_
  refine rb_callV C M_X8_166 (fun l X => (k_X8_isAbroad l X G W s hm hs).m) rfl (Nat.le_of_ble_eq_true rfl) rfl dX8_isAbove_2 rfl rfl rfl (Nat.le_of_ble_eq_true rfl) ⟨(Nat.le_of_ble_eq_true rfl), (Nat.le_of_ble_eq_true rfl)⟩ (Nat.le_of_ble_eq_true rfl) (Nat.le_of_ble_eq_true rfl) (fun v G' hp => ?_) (fun _ _ hp => hp.elim)
  obtain ⟨rfl, e9⟩ := hp
  rw [e9]
  clear e9 G'
  refine rb_if_eq C 37 dX8_isAbove_5 (by decide) (fun h5 => ?_) (fun h5 => ?_)
  · refine rb_iconst C dX8_isAbove_37 (v := 0) (by decide) ?_
    exact rb_zret C E dX8_isAbove_38 (rfl) (Nat.le_of_ble_eq_true rfl) (Nat.le_of_ble_eq_true rfl) (pv_ ((if_pos h5).trans (rfl)))
  · refine rb_aload_n C dX8_isAbove_8 rfl ?_
    refine rw_getP C FR_X8_68 dX8_isAbove_9 rfl (o := some (15, 23, 0)) (hm.1 23 (by decide)) ?_
    refine rb_iload_n C dX8_isAbove_12 rfl ?_
    refine rw_zald C (x := (W (15, 23, 0) s.toNatClampNeg)) 10 s.toNatClampNeg dX8_isAbove_13 rfl (hm.2 23 (by decide)) hs rfl (rfl) ?_
    refine rb_if_ne C 37 dX8_isAbove_14 (by decide) (fun h14 => ?_) (fun h14 => ?_)
    · refine rb_iconst C dX8_isAbove_37 (v := 0) (by decide) ?_
      exact rb_zret C E dX8_isAbove_38 (rfl) (Nat.le_of_ble_eq_true rfl) (Nat.le_of_ble_eq_true rfl) (pv_ ((if_neg h5).trans ((if_neg h14).trans (rfl))))
    · refine rb_aload_n C dX8_isAbove_17 rfl ?_
      refine rb_iload_n C dX8_isAbove_18 rfl ?_
      refine rb_callV C M_X8_161 (fun l X => (k_X8_abroadOf l X G W s hm hs).m) rfl (Nat.le_of_ble_eq_true rfl) rfl dX8_isAbove_19 rfl rfl rfl (Nat.le_of_ble_eq_true rfl) ⟨(Nat.le_of_ble_eq_true rfl), (Nat.le_of_ble_eq_true rfl)⟩ (Nat.le_of_ble_eq_true rfl) (Nat.le_of_ble_eq_true rfl) (fun v G' hp => ?_) (fun _ _ hp => hp.elim)
      obtain ⟨rfl, e9⟩ := hp
      rw [e9]
      clear e9 G'
      refine rb_iload_n C dX8_isAbove_22 rfl ?_
      refine rb_iadd C dX8_isAbove_23 ?_
      refine rb_aload_n C dX8_isAbove_24 rfl ?_
      refine rw_getP C FR_X8_65 dX8_isAbove_25 rfl (o := some (14, 22, 0)) (hm.1 22 (by decide)) ?_
      refine rb_iload_n C dX8_isAbove_28 rfl ?_
      refine rw_iald C (x := (W (14, 22, 0) s.toNatClampNeg)) 10 s.toNatClampNeg dX8_isAbove_29 rfl (hm.2 22 (by decide)) hs rfl (rfl) ?_
      refine rb_icmp_le C 37 dX8_isAbove_30 (by decide) (fun h30 => ?_) (fun h30 => ?_)
      · refine rb_iconst C dX8_isAbove_37 (v := 0) (by decide) ?_
        exact rb_zret C E dX8_isAbove_38 (rfl) (Nat.le_of_ble_eq_true rfl) (Nat.le_of_ble_eq_true rfl) (pv_ ((if_neg h5).trans ((if_pos h14).trans ((if_pos h30).trans (rfl)))))
      · refine rb_iconst C dX8_isAbove_33 (v := 1) (by decide) ?_
        refine rb_goto C 38 dX8_isAbove_34 (by decide) ?_
        exact rb_zret C E dX8_isAbove_38 (rfl) (Nat.le_of_ble_eq_true rfl) (Nat.le_of_ble_eq_true rfl) (pv_ ((if_neg h5).trans ((if_pos h14).trans ((if_neg h30).trans (rfl)))))

def m_isOf (W : rb_I) (r : Int32) (visited : Int32) (its : Int32) : Int32 := (if (W (14, 31, 0) r.toNatClampNeg) = visited then (if (W (14, 30, 0) r.toNatClampNeg) = its then (1 : Int32) else (0 : Int32)) else (0 : Int32))
theorem z_m_isOf (W : rb_I) (r : Int32) (visited : Int32) (its : Int32) : m_isOf W r visited its = 0 ∨ m_isOf W r visited its = 1 := by
  unfold m_isOf
  repeat' split
  all_goals first | exact Or.inl rfl | exact Or.inr rfl
set_option maxRecDepth 100000 in
set_option maxHeartbeats 4000000 in
theorem k_X8_isOf (l : Launch) (X : rb_X) (G : rb_G) (W : rb_I) (r : Int32) (visited : Int32) (its : Int32) (hm : MS G) (hr : vp_in r 400) : rb_N l X yX8_isOf (.code yX8_isOf cX8_isOf 4 (some .boolean)) 1 12 0 0 [rbR (16, 0, 0), rbI r, rbI visited, rbI its] (wI G W) (fun v9 G9 => v9 = some (rbI (m_isOf W r visited its)) ∧ G9 = wI G W) := by
  refine rb_startN RX8 rfl (by decide +kernel) rfl (Nat.le_of_ble_eq_true rfl) ?_
  intro Φ C E nm
  show rb_W Φ 0 0 0 [some (rbR (16, 0, 0)), some (rbI r), some (rbI visited), some (rbI its)] [] (wI G W)
  refine rb_aload_n C dX8_isOf_0 rfl ?_
  refine rw_getP C FR_X8_86 dX8_isOf_1 rfl (o := some (14, 31, 0)) (hm.1 31 (by decide)) ?_
  refine rb_iload_n C dX8_isOf_4 rfl ?_
  refine rw_iald C (x := (W (14, 31, 0) r.toNatClampNeg)) 400 r.toNatClampNeg dX8_isOf_5 rfl (hm.2 31 (by decide)) hr rfl (rfl) ?_
  refine rb_iload_n C dX8_isOf_6 rfl ?_
  refine rb_icmp_ne C 24 dX8_isOf_7 (by decide) (fun h7 => ?_) (fun h7 => ?_)
  · refine rb_iconst C dX8_isOf_24 (v := 0) (by decide) ?_
    exact rb_zret C E dX8_isOf_25 (rfl) (Nat.le_of_ble_eq_true rfl) (Nat.le_of_ble_eq_true rfl) (pv_ ((if_neg h7).trans (rfl)))
  · refine rb_aload_n C dX8_isOf_10 rfl ?_
    refine rw_getP C FR_X8_83 dX8_isOf_11 rfl (o := some (14, 30, 0)) (hm.1 30 (by decide)) ?_
    refine rb_iload_n C dX8_isOf_14 rfl ?_
    refine rw_iald C (x := (W (14, 30, 0) r.toNatClampNeg)) 400 r.toNatClampNeg dX8_isOf_15 rfl (hm.2 30 (by decide)) hr rfl (rfl) ?_
    refine rb_iload_n C dX8_isOf_16 rfl ?_
    refine rb_icmp_ne C 24 dX8_isOf_17 (by decide) (fun h17 => ?_) (fun h17 => ?_)
    · refine rb_iconst C dX8_isOf_24 (v := 0) (by decide) ?_
      exact rb_zret C E dX8_isOf_25 (rfl) (Nat.le_of_ble_eq_true rfl) (Nat.le_of_ble_eq_true rfl) (pv_ ((if_pos h7).trans ((if_neg h17).trans (rfl))))
    · refine rb_iconst C dX8_isOf_20 (v := 1) (by decide) ?_
      refine rb_goto C 25 dX8_isOf_21 (by decide) ?_
      exact rb_zret C E dX8_isOf_25 (rfl) (Nat.le_of_ble_eq_true rfl) (Nat.le_of_ble_eq_true rfl) (pv_ ((if_pos h7).trans ((if_pos h17).trans (rfl))))

def m_nobody (W : rb_I) (s : Int32) (other : Int32) : Int32 := (if (W (14, 19, 0) s.toNatClampNeg) = (-1) then (1 : Int32) else (if (W (14, 21, 0) other.toNatClampNeg) = (-1) then (2 : Int32) else (if (W (14, 27, 0) (10 * (W (14, 21, 0) other.toNatClampNeg).toNatClampNeg + other.toNatClampNeg)) = (-1) then (3 : Int32) else (if (W (14, 19, 0) other.toNatClampNeg) = (W (14, 21, 0) other.toNatClampNeg) then (0 : Int32) else (4 : Int32)))))
set_option maxRecDepth 100000 in
set_option maxHeartbeats 4000000 in
theorem k_X8_nobody (l : Launch) (X : rb_X) (G : rb_G) (W : rb_I) (s : Int32) (other : Int32) (hm : MS G) (hM : MI W) (hs : vp_in s 10) (ho : vp_in other 10) : rb_N l X yX8_nobody (.code yX8_nobody cX8_nobody 3 (some .int)) 1 12 0 0 [rbR (16, 0, 0), rbI s, rbI other] (wI G W) (fun v9 G9 => v9 = some (rbI (m_nobody W s other)) ∧ G9 = wI G W) := by
  refine rb_startN RX8 rfl (by decide +kernel) rfl (Nat.le_of_ble_eq_true rfl) ?_
  intro Φ C E nm
  show rb_W Φ 0 0 0 [some (rbR (16, 0, 0)), some (rbI s), some (rbI other)] [] (wI G W)
  refine rb_aload_n C dX8_nobody_0 rfl ?_
  refine rw_getP C FR_X8_56 dX8_nobody_1 rfl (o := some (14, 19, 0)) (hm.1 19 (by decide)) ?_
  refine rb_iload_n C dX8_nobody_4 rfl ?_
  refine rw_iald C (x := (W (14, 19, 0) s.toNatClampNeg)) 10 s.toNatClampNeg dX8_nobody_5 rfl (hm.2 19 (by decide)) hs rfl (rfl) ?_
  refine rb_iconst C dX8_nobody_6 (v := (-1)) (by decide) ?_
  refine rb_icmp_ne C 12 dX8_nobody_7 (by decide) (fun h7 => ?_) (fun h7 => ?_)
  · refine rb_aload_n C dX8_nobody_12 rfl ?_
    refine rw_getP C FR_X8_62 dX8_nobody_13 rfl (o := some (14, 21, 0)) (hm.1 21 (by decide)) ?_
    refine rb_iload_n C dX8_nobody_16 rfl ?_
    refine rw_iald C (x := (W (14, 21, 0) other.toNatClampNeg)) 10 other.toNatClampNeg dX8_nobody_17 rfl (hm.2 21 (by decide)) ho rfl (rfl) ?_
    refine rb_iconst C dX8_nobody_18 (v := (-1)) (by decide) ?_
    refine rb_icmp_ne C 24 dX8_nobody_19 (by decide) (fun h19 => ?_) (fun h19 => ?_)
    · refine rb_aload_n C dX8_nobody_24 rfl ?_
      refine rw_getP C FR_X8_80 dX8_nobody_25 rfl (o := some (14, 27, 0)) (hm.1 27 (by decide)) ?_
      refine rb_bipush C dX8_nobody_28 (v := 10) (by decide) ?_
      refine rb_aload_n C dX8_nobody_30 rfl ?_
      refine rw_getP C FR_X8_62 dX8_nobody_31 rfl (o := some (14, 21, 0)) (hm.1 21 (by decide)) ?_
      refine rb_iload_n C dX8_nobody_34 rfl ?_
      refine rw_iald C (x := (W (14, 21, 0) other.toNatClampNeg)) 10 other.toNatClampNeg dX8_nobody_35 rfl (hm.2 21 (by decide)) ho rfl (rfl) ?_
      refine rb_imul C dX8_nobody_36 ?_
      refine rb_iload_n C dX8_nobody_37 rfl ?_
      refine rb_iadd C dX8_nobody_38 ?_
      refine rw_iald C (x := (W (14, 27, 0) (10 * (W (14, 21, 0) other.toNatClampNeg).toNatClampNeg + other.toNatClampNeg))) 60 (10 * (W (14, 21, 0) other.toNatClampNeg).toNatClampNeg + other.toNatClampNeg) dX8_nobody_39 rfl (hm.2 27 (by decide)) (ix_lin (N := 60) 10 10 rfl ((hM.2.2.2.1 other.toNatClampNeg).resolve_left h19) ho (by decide) (by decide) (by decide)).1 ((ix_lin (N := 60) 10 10 rfl ((hM.2.2.2.1 other.toNatClampNeg).resolve_left h19) ho (by decide) (by decide) (by decide)).2.trans (by rw [(show ((W (14, 21, 0) other.toNatClampNeg)).toNatClampNeg = (W (14, 21, 0) other.toNatClampNeg).toNatClampNeg from rfl), (show (other).toNatClampNeg = other.toNatClampNeg from rfl)])) (rfl) ?_
      refine rb_iconst C dX8_nobody_40 (v := (-1)) (by decide) ?_
      refine rb_icmp_ne C 48 dX8_nobody_41 (by decide) (fun h41 => ?_) (fun h41 => ?_)
      · refine rb_aload_n C dX8_nobody_48 rfl ?_
        refine rw_getP C FR_X8_56 dX8_nobody_49 rfl (o := some (14, 19, 0)) (hm.1 19 (by decide)) ?_
        refine rb_iload_n C dX8_nobody_52 rfl ?_
        refine rw_iald C (x := (W (14, 19, 0) other.toNatClampNeg)) 10 other.toNatClampNeg dX8_nobody_53 rfl (hm.2 19 (by decide)) ho rfl (rfl) ?_
        refine rb_aload_n C dX8_nobody_54 rfl ?_
        refine rw_getP C FR_X8_62 dX8_nobody_55 rfl (o := some (14, 21, 0)) (hm.1 21 (by decide)) ?_
        refine rb_iload_n C dX8_nobody_58 rfl ?_
        refine rw_iald C (x := (W (14, 21, 0) other.toNatClampNeg)) 10 other.toNatClampNeg dX8_nobody_59 rfl (hm.2 21 (by decide)) ho rfl (rfl) ?_
        refine rb_icmp_eq C 67 dX8_nobody_60 (by decide) (fun h60 => ?_) (fun h60 => ?_)
        · refine rb_iconst C dX8_nobody_67 (v := 0) (by decide) ?_
          exact rb_iret C E dX8_nobody_68 (Nat.le_of_ble_eq_true rfl) (Nat.le_of_ble_eq_true rfl) (pv_ ((if_neg h7).trans ((if_neg h19).trans ((if_neg h41).trans ((if_pos h60).trans (rfl))))))
        · refine rb_iconst C dX8_nobody_63 (v := 4) (by decide) ?_
          refine rb_goto C 68 dX8_nobody_64 (by decide) ?_
          exact rb_iret C E dX8_nobody_68 (Nat.le_of_ble_eq_true rfl) (Nat.le_of_ble_eq_true rfl) (pv_ ((if_neg h7).trans ((if_neg h19).trans ((if_neg h41).trans ((if_neg h60).trans (rfl))))))
      · refine rb_iconst C dX8_nobody_44 (v := 3) (by decide) ?_
        refine rb_goto C 68 dX8_nobody_45 (by decide) ?_
        exact rb_iret C E dX8_nobody_68 (Nat.le_of_ble_eq_true rfl) (Nat.le_of_ble_eq_true rfl) (pv_ ((if_neg h7).trans ((if_neg h19).trans ((if_pos h41).trans (rfl)))))
    · refine rb_iconst C dX8_nobody_22 (v := 2) (by decide) ?_
      exact rb_iret C E dX8_nobody_23 (Nat.le_of_ble_eq_true rfl) (Nat.le_of_ble_eq_true rfl) (pv_ ((if_neg h7).trans ((if_pos h19).trans (rfl))))
  · refine rb_iconst C dX8_nobody_10 (v := 1) (by decide) ?_
    exact rb_iret C E dX8_nobody_11 (Nat.le_of_ble_eq_true rfl) (Nat.le_of_ble_eq_true rfl) (pv_ ((if_pos h7).trans (rfl)))

def m_priceOf (W : rb_I) (a : Int32) (all : Int32) : Int32 := (if a = (-1) then (0 : Int32) else (if (W (14, 13, 0) a.toNatClampNeg) ≤ 0 then (W (14, 12, 0) a.toNatClampNeg) else (if all < (W (14, 13, 0) a.toNatClampNeg) then (W (14, 12, 0) a.toNatClampNeg) else (W (14, 14, 0) a.toNatClampNeg))))
set_option maxRecDepth 100000 in
set_option maxHeartbeats 4000000 in
theorem k_X8_priceOf (l : Launch) (X : rb_X) (G : rb_G) (W : rb_I) (a : Int32) (all : Int32) (hm : MS G) (ha : a = -1 ∨ vp_in a 30) : rb_N l X yX8_priceOf (.code yX8_priceOf cX8_priceOf 3 (some .int)) 1 12 0 0 [rbR (16, 0, 0), rbI a, rbI all] (wI G W) (fun v9 G9 => v9 = some (rbI (m_priceOf W a all)) ∧ G9 = wI G W) := by
  refine rb_startN RX8 rfl (by decide +kernel) rfl (Nat.le_of_ble_eq_true rfl) ?_
  intro Φ C E nm
  show rb_W Φ 0 0 0 [some (rbR (16, 0, 0)), some (rbI a), some (rbI all)] [] (wI G W)
  refine rb_iload_n C dX8_priceOf_0 rfl ?_
  refine rb_iconst C dX8_priceOf_1 (v := (-1)) (by decide) ?_
  refine rb_icmp_ne C 7 dX8_priceOf_2 (by decide) (fun h2 => ?_) (fun h2 => ?_)
  · refine rb_aload_n C dX8_priceOf_7 rfl ?_
    refine rw_getP C FR_X8_41 dX8_priceOf_8 rfl (o := some (14, 13, 0)) (hm.1 13 (by decide)) ?_
    refine rb_iload_n C dX8_priceOf_11 rfl ?_
    refine rw_iald C (x := (W (14, 13, 0) a.toNatClampNeg)) 30 a.toNatClampNeg dX8_priceOf_12 rfl (hm.2 13 (by decide)) (ha.resolve_left h2) rfl (rfl) ?_
    refine rb_if_le C 35 dX8_priceOf_13 (by decide) (fun h13 => ?_) (fun h13 => ?_)
    · refine rb_aload_n C dX8_priceOf_35 rfl ?_
      refine rw_getP C FR_X8_38 dX8_priceOf_36 rfl (o := some (14, 12, 0)) (hm.1 12 (by decide)) ?_
      refine rb_iload_n C dX8_priceOf_39 rfl ?_
      refine rw_iald C (x := (W (14, 12, 0) a.toNatClampNeg)) 30 a.toNatClampNeg dX8_priceOf_40 rfl (hm.2 12 (by decide)) (ha.resolve_left h2) rfl (rfl) ?_
      exact rb_iret C E dX8_priceOf_41 (Nat.le_of_ble_eq_true rfl) (Nat.le_of_ble_eq_true rfl) (pv_ ((if_neg h2).trans ((if_pos h13).trans (rfl))))
    · refine rb_iload_n C dX8_priceOf_16 rfl ?_
      refine rb_aload_n C dX8_priceOf_17 rfl ?_
      refine rw_getP C FR_X8_41 dX8_priceOf_18 rfl (o := some (14, 13, 0)) (hm.1 13 (by decide)) ?_
      refine rb_iload_n C dX8_priceOf_21 rfl ?_
      refine rw_iald C (x := (W (14, 13, 0) a.toNatClampNeg)) 30 a.toNatClampNeg dX8_priceOf_22 rfl (hm.2 13 (by decide)) (ha.resolve_left h2) rfl (rfl) ?_
      refine rb_icmp_lt C 35 dX8_priceOf_23 (by decide) (fun h23 => ?_) (fun h23 => ?_)
      · refine rb_aload_n C dX8_priceOf_35 rfl ?_
        refine rw_getP C FR_X8_38 dX8_priceOf_36 rfl (o := some (14, 12, 0)) (hm.1 12 (by decide)) ?_
        refine rb_iload_n C dX8_priceOf_39 rfl ?_
        refine rw_iald C (x := (W (14, 12, 0) a.toNatClampNeg)) 30 a.toNatClampNeg dX8_priceOf_40 rfl (hm.2 12 (by decide)) (ha.resolve_left h2) rfl (rfl) ?_
        exact rb_iret C E dX8_priceOf_41 (Nat.le_of_ble_eq_true rfl) (Nat.le_of_ble_eq_true rfl) (pv_ ((if_neg h2).trans ((if_neg h13).trans ((if_pos h23).trans (rfl)))))
      · refine rb_aload_n C dX8_priceOf_26 rfl ?_
        refine rw_getP C FR_X8_44 dX8_priceOf_27 rfl (o := some (14, 14, 0)) (hm.1 14 (by decide)) ?_
        refine rb_iload_n C dX8_priceOf_30 rfl ?_
        refine rw_iald C (x := (W (14, 14, 0) a.toNatClampNeg)) 30 a.toNatClampNeg dX8_priceOf_31 rfl (hm.2 14 (by decide)) (ha.resolve_left h2) rfl (rfl) ?_
        refine rb_goto C 41 dX8_priceOf_32 (by decide) ?_
        exact rb_iret C E dX8_priceOf_41 (Nat.le_of_ble_eq_true rfl) (Nat.le_of_ble_eq_true rfl) (pv_ ((if_neg h2).trans ((if_neg h13).trans ((if_neg h23).trans (rfl)))))
  · refine rb_iconst C dX8_priceOf_5 (v := 0) (by decide) ?_
    exact rb_iret C E dX8_priceOf_6 (Nat.le_of_ble_eq_true rfl) (Nat.le_of_ble_eq_true rfl) (pv_ ((if_pos h2).trans (rfl)))

def m_pays (W : rb_I) (s : Int32) (money : Int32) : rb_I := (if (m_isAbroad (up2 W (14, 24, 0) s.toNatClampNeg ((W (14, 24, 0) s.toNatClampNeg) + money)) s) = 0 then (up2 W (14, 24, 0) s.toNatClampNeg ((W (14, 24, 0) s.toNatClampNeg) + money)) else (up2 (up2 (up2 W (14, 24, 0) s.toNatClampNeg ((W (14, 24, 0) s.toNatClampNeg) + money)) (14, 26, 0) s.toNatClampNeg ((m_abroadOf (up2 W (14, 24, 0) s.toNatClampNeg ((W (14, 24, 0) s.toNatClampNeg) + money)) s) + money)) (14, 25, 0) s.toNatClampNeg ((W (16, 0, 0) 1) / (43200))))
set_option maxRecDepth 100000 in
set_option maxHeartbeats 4000000 in
theorem k_X8_pays (l : Launch) (X : rb_X) (G : rb_G) (W : rb_I) (s : Int32) (money : Int32) (hm : MS G) (hs : vp_in s 10) : rb_N l X yX8_pays (.code yX8_pays cX8_pays 3 none) 2 33 0 0 [rbR (16, 0, 0), rbI s, rbI money] (wI G W) (fun v9 G9 => v9 = none ∧ G9 = wI G (m_pays W s money)) := by
  refine rb_startN RX8 rfl (by decide +kernel) rfl (Nat.le_of_ble_eq_true rfl) ?_
  intro Φ C E nm
  show rb_W Φ 0 0 0 [some (rbR (16, 0, 0)), some (rbI s), some (rbI money)] [] (wI G W)
  refine rb_aload_n C dX8_pays_0 rfl ?_
  refine rw_getP C FR_X8_71 dX8_pays_1 rfl (o := some (14, 24, 0)) (hm.1 24 (by decide)) ?_
  refine rb_iload_n C dX8_pays_4 rfl ?_
  refine rb_dup2 C dX8_pays_5 rfl rfl ?_
  refine rw_iald C (x := (W (14, 24, 0) s.toNatClampNeg)) 10 s.toNatClampNeg dX8_pays_6 rfl (hm.2 24 (by decide)) hs rfl (rfl) ?_
  refine rb_iload_n C dX8_pays_7 rfl ?_
  refine rb_iadd C dX8_pays_8 ?_
  refine rw_iast C 10 s.toNatClampNeg dX8_pays_9 rfl (hm.2 24 (by decide)) hs rfl ?_
  refine rb_aload_n C dX8_pays_10 rfl ?_
  refine rb_iload_n C dX8_pays_11 rfl ?_
  refine rb_callV C M_X8_166 (fun l X => (k_X8_isAbroad l X G (up2 W (14, 24, 0) s.toNatClampNeg ((W (14, 24, 0) s.toNatClampNeg) + money)) s hm hs).m) rfl (Nat.le_of_ble_eq_true rfl) rfl dX8_pays_12 rfl rfl rfl (Nat.le_of_ble_eq_true rfl) ⟨(Nat.le_of_ble_eq_true rfl), (Nat.le_of_ble_eq_true rfl)⟩ (Nat.le_of_ble_eq_true rfl) (Nat.le_of_ble_eq_true rfl) (fun v G' hp => ?_) (fun _ _ hp => hp.elim)
  obtain ⟨rfl, e9⟩ := hp
  rw [e9]
  clear e9 G'
  refine rb_if_eq C 44 dX8_pays_15 (by decide) (fun h15 => ?_) (fun h15 => ?_)
  · exact rb_vret C E dX8_pays_44 (Nat.le_of_ble_eq_true rfl) (Nat.le_of_ble_eq_true rfl) (pw_ ((if_pos h15).trans (rfl)))
  · refine rb_aload_n C dX8_pays_18 rfl ?_
    refine rw_getP C FR_X8_77 dX8_pays_19 rfl (o := some (14, 26, 0)) (hm.1 26 (by decide)) ?_
    refine rb_iload_n C dX8_pays_22 rfl ?_
    refine rb_aload_n C dX8_pays_23 rfl ?_
    refine rb_iload_n C dX8_pays_24 rfl ?_
    refine rb_callV C M_X8_161 (fun l X => (k_X8_abroadOf l X G (up2 W (14, 24, 0) s.toNatClampNeg ((W (14, 24, 0) s.toNatClampNeg) + money)) s hm hs).m) rfl (Nat.le_of_ble_eq_true rfl) rfl dX8_pays_25 rfl rfl rfl (Nat.le_of_ble_eq_true rfl) ⟨(Nat.le_of_ble_eq_true rfl), (Nat.le_of_ble_eq_true rfl)⟩ (Nat.le_of_ble_eq_true rfl) (Nat.le_of_ble_eq_true rfl) (fun v G' hp => ?_) (fun _ _ hp => hp.elim)
    obtain ⟨rfl, e9⟩ := hp
    rw [e9]
    clear e9 G'
    refine rb_iload_n C dX8_pays_28 rfl ?_
    refine rb_iadd C dX8_pays_29 ?_
    refine rw_iast C 10 s.toNatClampNeg dX8_pays_30 rfl (hm.2 26 (by decide)) hs rfl ?_
    refine rb_aload_n C dX8_pays_31 rfl ?_
    refine rw_getP C FR_X8_74 dX8_pays_32 rfl (o := some (14, 25, 0)) (hm.1 25 (by decide)) ?_
    refine rb_iload_n C dX8_pays_35 rfl ?_
    refine rb_aload_n C dX8_pays_36 rfl ?_
    refine rw_getI C FR_X8_141 dX8_pays_37 rfl (x := (W (16, 0, 0) 1)) ((up2_n _ _ _ _ (fun q => absurd (congrArg Prod.fst q.1) (show ¬ ((16 : Nat) = 14) by decide))).trans ((up2_n _ _ _ _ (fun q => absurd (congrArg Prod.fst q.1) (show ¬ ((16 : Nat) = 14) by decide))).trans (rfl))) ?_
    refine rb_ldc C dX8_pays_40 N_X8_160 ?_
    refine rb_idiv C dX8_pays_42 (by decide) ?_
    refine rw_iast C 10 s.toNatClampNeg dX8_pays_43 rfl (hm.2 25 (by decide)) hs rfl ?_
    exact rb_vret C E dX8_pays_44 (Nat.le_of_ble_eq_true rfl) (Nat.le_of_ble_eq_true rfl) (pw_ ((if_neg h15).trans (rfl)))

def m_makesContact (W : rb_I) (s : Int32) : rb_I := (if (W (14, 6, 0) (W (14, 19, 0) s.toNatClampNeg).toNatClampNeg) ≤ 0 then (if (W (14, 21, 0) s.toNatClampNeg) = (-1) then (up2 (up2 W (14, 27, 0) (10 * (W (14, 19, 0) s.toNatClampNeg).toNatClampNeg + s.toNatClampNeg) (W (16, 0, 0) 1)) (14, 21, 0) s.toNatClampNeg (W (14, 19, 0) s.toNatClampNeg)) else (if (W (14, 21, 0) s.toNatClampNeg) = (W (14, 19, 0) s.toNatClampNeg) then (up2 (up2 W (14, 27, 0) (10 * (W (14, 19, 0) s.toNatClampNeg).toNatClampNeg + s.toNatClampNeg) (W (16, 0, 0) 1)) (14, 21, 0) s.toNatClampNeg (W (14, 19, 0) s.toNatClampNeg)) else (up2 (up2 (up2 W (14, 27, 0) (10 * (W (14, 19, 0) s.toNatClampNeg).toNatClampNeg + s.toNatClampNeg) (W (16, 0, 0) 1)) (14, 27, 0) (10 * (W (14, 21, 0) s.toNatClampNeg).toNatClampNeg + s.toNatClampNeg) (-1)) (14, 21, 0) s.toNatClampNeg (W (14, 19, 0) s.toNatClampNeg)))) else (up2 (up2 W (14, 27, 0) (10 * (W (14, 19, 0) s.toNatClampNeg).toNatClampNeg + s.toNatClampNeg) (W (16, 0, 0) 1)) (14, 6, 0) (W (14, 19, 0) s.toNatClampNeg).toNatClampNeg ((W (14, 6, 0) (W (14, 19, 0) s.toNatClampNeg).toNatClampNeg) - 1)))
set_option maxRecDepth 100000 in
set_option maxHeartbeats 4000000 in
theorem k_X8_makesContact (l : Launch) (X : rb_X) (G : rb_G) (W : rb_I) (s : Int32) (hm : MS G) (hM : MI W) (hs : vp_in s 10) (ha : ¬ W (14, 19, 0) s.toNatClampNeg = -1) : rb_N l X yX8_makesContact (.code yX8_makesContact cX8_makesContact 3 none) 1 12 0 0 [rbR (16, 0, 0), rbI s] (wI G W) (fun v9 G9 => v9 = none ∧ G9 = wI G (m_makesContact W s)) := by
  refine rb_startN RX8 rfl (by decide +kernel) rfl (Nat.le_of_ble_eq_true rfl) ?_
  intro Φ C E nm
  show rb_W Φ 0 0 0 [some (rbR (16, 0, 0)), some (rbI s), none] [] (wI G W)
  refine rb_aload_n C dX8_makesContact_0 rfl ?_
  refine rw_getP C FR_X8_56 dX8_makesContact_1 rfl (o := some (14, 19, 0)) (hm.1 19 (by decide)) ?_
  refine rb_iload_n C dX8_makesContact_4 rfl ?_
  refine rw_iald C (x := (W (14, 19, 0) s.toNatClampNeg)) 10 s.toNatClampNeg dX8_makesContact_5 rfl (hm.2 19 (by decide)) hs rfl (rfl) ?_
  refine rb_istore_n C dX8_makesContact_6 (Nat.le_of_ble_eq_true rfl) rfl (Lv' := [_, _, _]) rfl ?_
  refine rb_aload_n C dX8_makesContact_7 rfl ?_
  refine rw_getP C FR_X8_80 dX8_makesContact_8 rfl (o := some (14, 27, 0)) (hm.1 27 (by decide)) ?_
  refine rb_bipush C dX8_makesContact_11 (v := 10) (by decide) ?_
  refine rb_iload_n C dX8_makesContact_13 rfl ?_
  refine rb_imul C dX8_makesContact_14 ?_
  refine rb_iload_n C dX8_makesContact_15 rfl ?_
  refine rb_iadd C dX8_makesContact_16 ?_
  refine rb_aload_n C dX8_makesContact_17 rfl ?_
  refine rw_getI C FR_X8_141 dX8_makesContact_18 rfl (x := (W (16, 0, 0) 1)) (rfl) ?_
  refine rw_iast C 60 (10 * (W (14, 19, 0) s.toNatClampNeg).toNatClampNeg + s.toNatClampNeg) dX8_makesContact_21 rfl (hm.2 27 (by decide)) (ix_lin (N := 60) 10 10 rfl ((hM.2.2.1 s.toNatClampNeg).resolve_left ha) hs (by decide) (by decide) (by decide)).1 ((ix_lin (N := 60) 10 10 rfl ((hM.2.2.1 s.toNatClampNeg).resolve_left ha) hs (by decide) (by decide) (by decide)).2.trans (by rw [(show ((W (14, 19, 0) s.toNatClampNeg)).toNatClampNeg = (W (14, 19, 0) s.toNatClampNeg).toNatClampNeg from rfl), (show (s).toNatClampNeg = s.toNatClampNeg from rfl)])) ?_
  refine rb_aload_n C dX8_makesContact_22 rfl ?_
  refine rw_getP C FR_X8_23 dX8_makesContact_23 rfl (o := some (14, 6, 0)) (hm.1 6 (by decide)) ?_
  refine rb_iload_n C dX8_makesContact_26 rfl ?_
  refine rw_iald C (x := (W (14, 6, 0) (W (14, 19, 0) s.toNatClampNeg).toNatClampNeg)) 6 (W (14, 19, 0) s.toNatClampNeg).toNatClampNeg dX8_makesContact_27 rfl (hm.2 6 (by decide)) ((hM.2.2.1 s.toNatClampNeg).resolve_left ha) rfl ((up2_n _ _ _ _ (fun q => absurd (congrArg (fun r : rb_R => r.2.1) q.1) (show ¬ ((6 : Nat) = 27) by decide))).trans (rfl)) ?_
  refine rb_if_le C 42 dX8_makesContact_28 (by decide) (fun h28 => ?_) (fun h28 => ?_)
  · refine rb_aload_n C dX8_makesContact_42 rfl ?_
    refine rw_getP C FR_X8_62 dX8_makesContact_43 rfl (o := some (14, 21, 0)) (hm.1 21 (by decide)) ?_
    refine rb_iload_n C dX8_makesContact_46 rfl ?_
    refine rw_iald C (x := (W (14, 21, 0) s.toNatClampNeg)) 10 s.toNatClampNeg dX8_makesContact_47 rfl (hm.2 21 (by decide)) hs rfl ((up2_n _ _ _ _ (fun q => absurd (congrArg (fun r : rb_R => r.2.1) q.1) (show ¬ ((21 : Nat) = 27) by decide))).trans (rfl)) ?_
    refine rb_iconst C dX8_makesContact_48 (v := (-1)) (by decide) ?_
    refine rb_icmp_eq C 79 dX8_makesContact_49 (by decide) (fun h49 => ?_) (fun h49 => ?_)
    · refine rb_aload_n C dX8_makesContact_79 rfl ?_
      refine rw_getP C FR_X8_62 dX8_makesContact_80 rfl (o := some (14, 21, 0)) (hm.1 21 (by decide)) ?_
      refine rb_iload_n C dX8_makesContact_83 rfl ?_
      refine rb_iload_n C dX8_makesContact_84 rfl ?_
      refine rw_iast C 10 s.toNatClampNeg dX8_makesContact_85 rfl (hm.2 21 (by decide)) hs rfl ?_
      exact rb_vret C E dX8_makesContact_86 (Nat.le_of_ble_eq_true rfl) (Nat.le_of_ble_eq_true rfl) (pw_ ((if_pos h28).trans ((if_pos h49).trans (rfl))))
    · refine rb_aload_n C dX8_makesContact_52 rfl ?_
      refine rw_getP C FR_X8_62 dX8_makesContact_53 rfl (o := some (14, 21, 0)) (hm.1 21 (by decide)) ?_
      refine rb_iload_n C dX8_makesContact_56 rfl ?_
      refine rw_iald C (x := (W (14, 21, 0) s.toNatClampNeg)) 10 s.toNatClampNeg dX8_makesContact_57 rfl (hm.2 21 (by decide)) hs rfl ((up2_n _ _ _ _ (fun q => absurd (congrArg (fun r : rb_R => r.2.1) q.1) (show ¬ ((21 : Nat) = 27) by decide))).trans (rfl)) ?_
      refine rb_iload_n C dX8_makesContact_58 rfl ?_
      refine rb_icmp_eq C 79 dX8_makesContact_59 (by decide) (fun h59 => ?_) (fun h59 => ?_)
      · refine rb_aload_n C dX8_makesContact_79 rfl ?_
        refine rw_getP C FR_X8_62 dX8_makesContact_80 rfl (o := some (14, 21, 0)) (hm.1 21 (by decide)) ?_
        refine rb_iload_n C dX8_makesContact_83 rfl ?_
        refine rb_iload_n C dX8_makesContact_84 rfl ?_
        refine rw_iast C 10 s.toNatClampNeg dX8_makesContact_85 rfl (hm.2 21 (by decide)) hs rfl ?_
        exact rb_vret C E dX8_makesContact_86 (Nat.le_of_ble_eq_true rfl) (Nat.le_of_ble_eq_true rfl) (pw_ ((if_pos h28).trans ((if_neg h49).trans ((if_pos h59).trans (rfl)))))
      · refine rb_aload_n C dX8_makesContact_62 rfl ?_
        refine rw_getP C FR_X8_80 dX8_makesContact_63 rfl (o := some (14, 27, 0)) (hm.1 27 (by decide)) ?_
        refine rb_bipush C dX8_makesContact_66 (v := 10) (by decide) ?_
        refine rb_aload_n C dX8_makesContact_68 rfl ?_
        refine rw_getP C FR_X8_62 dX8_makesContact_69 rfl (o := some (14, 21, 0)) (hm.1 21 (by decide)) ?_
        refine rb_iload_n C dX8_makesContact_72 rfl ?_
        refine rw_iald C (x := (W (14, 21, 0) s.toNatClampNeg)) 10 s.toNatClampNeg dX8_makesContact_73 rfl (hm.2 21 (by decide)) hs rfl ((up2_n _ _ _ _ (fun q => absurd (congrArg (fun r : rb_R => r.2.1) q.1) (show ¬ ((21 : Nat) = 27) by decide))).trans (rfl)) ?_
        refine rb_imul C dX8_makesContact_74 ?_
        refine rb_iload_n C dX8_makesContact_75 rfl ?_
        refine rb_iadd C dX8_makesContact_76 ?_
        refine rb_iconst C dX8_makesContact_77 (v := (-1)) (by decide) ?_
        refine rw_iast C 60 (10 * (W (14, 21, 0) s.toNatClampNeg).toNatClampNeg + s.toNatClampNeg) dX8_makesContact_78 rfl (hm.2 27 (by decide)) (ix_lin (N := 60) 10 10 rfl ((hM.2.2.2.1 s.toNatClampNeg).resolve_left h49) hs (by decide) (by decide) (by decide)).1 ((ix_lin (N := 60) 10 10 rfl ((hM.2.2.2.1 s.toNatClampNeg).resolve_left h49) hs (by decide) (by decide) (by decide)).2.trans (by rw [(show ((W (14, 21, 0) s.toNatClampNeg)).toNatClampNeg = (W (14, 21, 0) s.toNatClampNeg).toNatClampNeg from rfl), (show (s).toNatClampNeg = s.toNatClampNeg from rfl)])) ?_
        refine rb_aload_n C dX8_makesContact_79 rfl ?_
        refine rw_getP C FR_X8_62 dX8_makesContact_80 rfl (o := some (14, 21, 0)) (hm.1 21 (by decide)) ?_
        refine rb_iload_n C dX8_makesContact_83 rfl ?_
        refine rb_iload_n C dX8_makesContact_84 rfl ?_
        refine rw_iast C 10 s.toNatClampNeg dX8_makesContact_85 rfl (hm.2 21 (by decide)) hs rfl ?_
        exact rb_vret C E dX8_makesContact_86 (Nat.le_of_ble_eq_true rfl) (Nat.le_of_ble_eq_true rfl) (pw_ ((if_pos h28).trans ((if_neg h49).trans ((if_neg h59).trans (rfl)))))
  · refine rb_aload_n C dX8_makesContact_31 rfl ?_
    refine rw_getP C FR_X8_23 dX8_makesContact_32 rfl (o := some (14, 6, 0)) (hm.1 6 (by decide)) ?_
    refine rb_iload_n C dX8_makesContact_35 rfl ?_
    refine rb_dup2 C dX8_makesContact_36 rfl rfl ?_
    refine rw_iald C (x := (W (14, 6, 0) (W (14, 19, 0) s.toNatClampNeg).toNatClampNeg)) 6 (W (14, 19, 0) s.toNatClampNeg).toNatClampNeg dX8_makesContact_37 rfl (hm.2 6 (by decide)) ((hM.2.2.1 s.toNatClampNeg).resolve_left ha) rfl ((up2_n _ _ _ _ (fun q => absurd (congrArg (fun r : rb_R => r.2.1) q.1) (show ¬ ((6 : Nat) = 27) by decide))).trans (rfl)) ?_
    refine rb_iconst C dX8_makesContact_38 (v := 1) (by decide) ?_
    refine rb_isub C dX8_makesContact_39 ?_
    refine rw_iast C 6 (W (14, 19, 0) s.toNatClampNeg).toNatClampNeg dX8_makesContact_40 rfl (hm.2 6 (by decide)) ((hM.2.2.1 s.toNatClampNeg).resolve_left ha) rfl ?_
    exact rb_vret C E dX8_makesContact_41 (Nat.le_of_ble_eq_true rfl) (Nat.le_of_ble_eq_true rfl) (pw_ ((if_neg h28).trans (rfl)))

