/-! the law's small methods -/
def rb_Scr (Φ : rb_F) (b L : Nat) (xs : Nat → Int32) : Prop := match Φ with
  | (_, _, _, _, s, _, _, _, _, _, _, X, A, _, _) => va_X b L xs s s.heap ∧ b < s.heap.size ∧ ¬ A b ∧ X.2.2.2.1 = b
section
variable {Φ : rb_F} {own : String} {cc : ByteArray} {nL fr lo mc ms cells slots pc : Nat} {Lv : List (Option rb_V)} {st : List rb_V} {G : rb_G}
theorem rb_scr (C : rb_C Φ own cc nL fr lo mc ms) : ∃ (b L : Nat) (xs : Nat → Int32), L ≤ 260 ∧ rb_Scr Φ b L xs := by
  obtain ⟨p, l, e, R, s, m, args, below, meth, c, Q, X, A, ad0, G0⟩ := Φ
  obtain ⟨L, xs, h5, h6, h7, h8⟩ := C.2.2.2.2.2.2.2.2.2.1.2.2.2.2
  exact ⟨_, L, xs, h5, h6, h7, h8, rfl⟩
theorem rb_slen (C : rb_C Φ own cc nL fr lo mc ms) {b L : Nat} {xs : Nat → Int32} (hs : rb_Scr Φ b L xs) (hd : decode cc pc = .ok (.arraylength, 1)) (kk : rb_W Φ cells slots (pc + 1) Lv (rbI (nI L) :: st) G) : rb_W Φ cells slots pc Lv (rbR (18, 0, 0) :: st) G := by
  obtain ⟨p, l, e, R, s, m, args, below, meth, c, Q, X, A, ad0, G0⟩ := Φ
  intro ad H locs ls hP hn hS hl ho hv
  obtain ⟨s1, s2, s3, s4⟩ := hs
  have hb : ad (18, 0, 0) = b := hP.2.2.2.2.1.trans s4
  have h := kk ad H locs ls hP hn hS hl (ho.tl.cons (rb_ok_i _ _)) hv
  show W p l e R s m args below meth c H locs cells slots Q (F0 m pc ls (.ref (ad (18, 0, 0)) :: st.map (rb_c ad)))
  rw [hb]
  exact va_slen C.1 C.2.1 s1 s2 s3 hS hd h
theorem rb_sld (C : rb_C Φ own cc nL fr lo mc ms) {b L : Nat} {xs : Nat → Int32} (hs : rb_Scr Φ b L xs) {i : Int32} (hi : vp_in i L) (hd : decode cc pc = .ok (.iaload, 1)) (kk : rb_W Φ cells slots (pc + 1) Lv (rbI (xs i.toNatClampNeg) :: st) G) : rb_W Φ cells slots pc Lv (rbI i :: rbR (18, 0, 0) :: st) G := by
  obtain ⟨p, l, e, R, s, m, args, below, meth, c, Q, X, A, ad0, G0⟩ := Φ
  intro ad H locs ls hP hn hS hl ho hv
  obtain ⟨s1, s2, s3, s4⟩ := hs
  have hb : ad (18, 0, 0) = b := hP.2.2.2.2.1.trans s4
  have h := kk ad H locs ls hP hn hS hl (ho.tl.tl.cons (rb_ok_i _ _)) hv
  show W p l e R s m args below meth c H locs cells slots Q (F0 m pc ls (.int i :: .ref (ad (18, 0, 0)) :: st.map (rb_c ad)))
  rw [hb]
  exact va_sld C.1 C.2.1 s1 s2 s3 hS hi hd h
end
theorem low_sh (v : Int32) : ∃ j : Nat, j < 2 ^ 31 ∧ (v.toUInt32 >>> ((1 : Int32).toUInt32 &&& Int32.toUInt32 31)).toInt32 = nI j := by
  have h := pk_ushr v 1 1 (by decide)
  have hv := v.toBitVec.isLt
  generalize (v.toUInt32 >>> ((1 : Int32).toUInt32 &&& Int32.toUInt32 31)).toInt32 = z at *
  refine ⟨z.toBitVec.toNat, by omega, Int32.toBitVec_inj.mp ?_⟩
  show _ = BitVec.ofNat 32 _
  simp
def cf (W W' : rb_I) : Prop := ∀ r q, r.1 < 14 → W' r q = W r q
theorem cf_rf (W : rb_I) : cf W W := fun _ _ _ => rfl
theorem cf_up {W W' : rb_I} (h : cf W W') (a k : Nat) (v : Int32) : cf W (up2 W' (14, a, 0) k v) := fun r q hr => by
  rw [up2_n _ _ _ _ (fun z => by rw [z.1] at hr; exact absurd hr (show ¬ (14 < 14) by decide))]
  exact h r q hr
theorem LI_cf {G : rb_G} {W W' M : rb_I} (h : LI G W M) (hf : cf W W') : LI G W' M := by
  obtain ⟨h1, cn, ag, t, R, h2, h3⟩ := h
  exact ⟨h1, cn, ag, t, R, h2, sx_c h3 (fun r q hr _ => hf r q (Nat.lt_succ_of_lt hr)) (fun _ _ _ => rfl)⟩
theorem up2_cm {f : rb_I} {r r' : rb_R} {k k' : Nat} {v v' : Int32} (h : r ≠ r') : up2 (up2 f r k v) r' k' v' = up2 (up2 f r' k' v') r k v := by
  funext x q
  unfold up2
  by_cases h1 : x = r'
  · subst h1
    simp [Ne.symm h]
  · simp [h1]
theorem nI_dec (n : Nat) : nI n + Int32.ofInt (-1) = nI n - 1 := by rw [Int32.sub_eq_add_neg]; rfl
/-- the agreement that a row of the model's says -/
theorem agb_eq {M : rb_I} {t dd ho vi ho1 vi1 fr to' : Nat} (ht : M (16, 0, 0) 1 = nI t) (m8 : M (14, 8, 0) dd = nI ho1) (m9 : M (14, 9, 0) dd = nI vi1) (m10 : M (14, 10, 0) dd = nI fr) (m11 : M (14, 11, 0) dd = nI to') (b1 : ho < 8) (b2 : vi < 8) (b3 : ho1 < 8) (b4 : vi1 < 8) (b5 : fr < 2000000) (b6 : to' < 2000000) (b7 : t < 2000000) (s : Int32) : m_agreement_b M (nI ho) (nI vi) dd s = if ho1 = ho ∧ vi1 = vi ∧ fr ≤ t ∧ t < to' then nI dd else s := by
  unfold m_agreement_b
  rw [m8, m9, m10, m11, ht]
  simp only [nI_eq (show ho1 < 2 ^ 31 by omega) (show ho < 2 ^ 31 by omega), nI_eq (show vi1 < 2 ^ 31 by omega) (show vi < 2 ^ 31 by omega), nI_ltI (show t < 2 ^ 31 by omega) (show fr < 2 ^ 31 by omega), nI_leI (show to' < 2 ^ 31 by omega) (show t < 2 ^ 31 by omega)]
  by_cases e1 : ho1 = ho
  · by_cases e2 : vi1 = vi
    · by_cases e3 : t < fr
      · rw [if_pos e1, if_pos e2, if_pos e3, if_neg (fun q => by omega)]
      · by_cases e4 : to' ≤ t
        · rw [if_pos e1, if_pos e2, if_neg e3, if_pos e4, if_neg (fun q => by omega)]
        · rw [if_pos e1, if_pos e2, if_neg e3, if_neg e4, if_pos ⟨e1, e2, by omega, by omega⟩]
    · rw [if_pos e1, if_neg e2, if_neg (fun q => e2 q.2.1)]
  · rw [if_neg e1, if_neg (fun q => e1 q.1)]
theorem isIn_0 {a k : Int32} (h : (a >>> (k &&& 31)) &&& 1 = 0) : m_isIn a k = 0 := by unfold m_isIn; rw [h]; rfl
theorem isIn_1 {a k : Int32} (h : ¬ (a >>> (k &&& 31)) &&& 1 = 0) : ¬ m_isIn a k = 0 := by
  unfold m_isIn
  rw [if_pos ((bs_1 _).resolve_left h)]
  decide
theorem isIn_n {a k : Int32} (h : ¬ (a >>> (k &&& 31)) &&& 1 = 1) : m_isIn a k = 0 := by unfold m_isIn; rw [if_neg h]
theorem isIn_y {a k : Int32} (h : (a >>> (k &&& 31)) &&& 1 = 1) : ¬ m_isIn a k = 0 := by unfold m_isIn; rw [if_pos h]; decide

set_option maxRecDepth 100000 in
set_option maxHeartbeats 4000000 in
theorem k_L_cell (l : Launch) (X : rb_X) (G : rb_G) (W : rb_I) (k : Nat) (hk : k < 1000) : rb_N l X yL_cell (.code yL_cell cL_cell 2 (some .int)) 1 12 0 0 [rbR (18, 0, 0), rbI (nI k)] (wI G W) (fun v9 G9 => ∃ x, v9 = some (rbI x) ∧ G9 = wI G W) := by
  refine rb_startN RL rfl (by decide +kernel) rfl (Nat.le_of_ble_eq_true rfl) ?_
  intro Φ C E nm
  show rb_W Φ 0 0 0 [some (rbR (18, 0, 0)), some (rbI (nI k))] [] (wI G W)
  obtain ⟨b, L, xs, hL, hs⟩ := rb_scr C
  refine rb_iload_n C dL_cell_0 rfl ?_
  refine rb_aload_n C dL_cell_1 rfl ?_
  refine rb_slen C hs dL_cell_2 ?_
  refine rb_icmp_ge C 12 dL_cell_3 (by decide) (fun h3 => ?_) (fun h3 => ?_)
  · replace h3 := (nI_leI (a := L) (b := k) (by omega) (by omega)).mp h3
    refine rb_ldc C dL_cell_12 N_L_7 ?_
    refine rb_iload_n C dL_cell_14 rfl ?_
    refine rb_bipush C dL_cell_15 (v := 11) (by decide) ?_
    refine rq_iadd C (z := (nI (k + 11))) dL_cell_17 (nI_add k 11) ?_
    refine rq_imul C (z := ((1205587479 : Int32) * (nI (k + 11)))) dL_cell_18 rfl ?_
    exact rb_iret C E dL_cell_19 (Nat.le_of_ble_eq_true rfl) (Nat.le_of_ble_eq_true rfl) (⟨_, rfl, rfl⟩)
  · replace h3 := mt (nI_leI (a := L) (b := k) (by omega) (by omega)).mpr h3
    refine rb_aload_n C dL_cell_6 rfl ?_
    refine rb_iload_n C dL_cell_7 rfl ?_
    refine rb_sld C hs (vp_in_nI (show k < L by omega) (by omega)) dL_cell_8 ?_
    refine rb_goto C 19 dL_cell_9 (by decide) ?_
    exact rb_iret C E dL_cell_19 (Nat.le_of_ble_eq_true rfl) (Nat.le_of_ble_eq_true rfl) (⟨_, rfl, rfl⟩)

set_option maxRecDepth 100000 in
set_option maxHeartbeats 4000000 in
theorem k_L_low (l : Launch) (X : rb_X) (G : rb_G) (W : rb_I) (v : Int32) (n : Nat) (h0 : 0 < n) (hn : n < 2 ^ 31) : rb_N l X yL_low (.code yL_low cL_low 2 (some .int)) 1 12 0 0 [rbI v, rbI (nI n)] (wI G W) (fun v9 G9 => ∃ k, k < n ∧ v9 = some (rbI (nI k)) ∧ G9 = wI G W) := by
  refine rb_startN RL rfl (by decide +kernel) rfl (Nat.le_of_ble_eq_true rfl) ?_
  intro Φ C E nm
  show rb_W Φ 0 0 0 [some (rbI v), some (rbI (nI n))] [] (wI G W)
  obtain ⟨j, hj, ej⟩ := low_sh v
  refine rb_iload_n C dL_low_0 rfl ?_
  refine rb_iconst C dL_low_1 (v := 1) (by decide) ?_
  refine rq_iushr C dL_low_2 ej ?_
  refine rb_iload_n C dL_low_3 rfl ?_
  refine rq_irem C (z := (nI (j % n))) dL_low_4 (nI_ne0 h0 hn) (pk_rem hj h0 hn) ?_
  exact rb_iret C E dL_low_5 (Nat.le_of_ble_eq_true rfl) (Nat.le_of_ble_eq_true rfl) (⟨_, Nat.mod_lt _ h0, rfl, rfl⟩)

set_option maxRecDepth 100000 in
set_option maxHeartbeats 4000000 in
theorem k_L_holds (l : Launch) (X : rb_X) (G : rb_G) (W M : rb_I) (hm : MS G) {S A R P t d : Nat} (hl : lx W M S A R P t d) (ho vi : Nat) (hho : ho < 6) (hvi : vi < 6) : rb_N l X yL_holds (.code yL_holds cL_holds 5 (some .int)) 1 12 0 0 [rbI (nI ho), rbI (nI vi), rbR (14, 3, 0), rbR (14, 0, 0)] (wI G W) (fun v9 G9 => v9 = some (rbI (m_agreement M (nI ho) (nI vi))) ∧ G9 = wI G W) := by
  refine rb_startN RL rfl (by decide +kernel) rfl (Nat.le_of_ble_eq_true rfl) ?_
  intro Φ C E nm
  show rb_W Φ 0 0 0 [some (rbI (nI ho)), some (rbI (nI vi)), some (rbR (14, 3, 0)), some (rbR (14, 0, 0)), none] [] (wI G W)
  obtain ⟨hS6, hA10, hRP, hP58, -, hd64, htm⟩ := lr_b hl
  refine rb_aload_n C dL_holds_0 rfl ?_
  refine rb_iconst C dL_holds_1 (v := 2) (by decide) ?_
  refine rw_iald C (x := (nI A)) 44 (2) dL_holds_2 rfl (hm 0 (by decide)) (show ¬ (((2 : Int32)) < 0 ∨ 44 ≤ (2 : Int32).toNatClampNeg) by decide) rfl ((lr_g2 hl)) ?_
  refine rb_iconst C dL_holds_3 (v := 1) (by decide) ?_
  refine rq_isub C (z := (nI A - 1)) dL_holds_4 rfl ?_
  refine rb_istore C dL_holds_5 (Nat.le_of_ble_eq_true rfl) rfl (Lv' := [_, _, _, _, _]) rfl ?_
  have loop7 : ∀ (dd : Nat) , dd ≤ A → (m_agreement M (nI ho) (nI vi)) = fo (m_agreement_b M (nI ho) (nI vi)) dd (-1) → rb_W Φ 0 0 7 [some (rbI (nI ho)), some (rbI (nI vi)), some (rbR (14, 3, 0)), some (rbR (14, 0, 0)), some (rbI (nI dd - 1))] [] (wI G W) := by
    intro dd
    induction dd with
    | zero =>
      intro hd hq
      rw [show nI 0 - 1 = (-1 : Int32) by decide]
      refine rb_iload C dL_holds_7 rfl ?_
      refine rb_if_lt C 67 dL_holds_9 (by decide) (fun _ => ?_) (fun h9 => absurd (by decide) h9)
      refine rb_iconst C dL_holds_67 (v := (-1)) (by decide) ?_
      exact rb_iret C E dL_holds_68 (Nat.le_of_ble_eq_true rfl) (Nat.le_of_ble_eq_true rfl) (⟨by rw [hq, fo_0], rfl⟩)
    | succ dd ih =>
      intro hd hq
      rw [nI_pred dd]
      obtain ⟨ho1, vi1, fr, to', pr, th, lw1, hb, ⟨a0, a1, a2, a3, a4, a5⟩, ⟨m8, m9, m10, m11, m12, m13, m14⟩⟩ := hl.2.2.2.2.2.2.1 dd (by omega)
      have hag := fun s => agb_eq (lm_t hl) m8 m9 m10 m11 (show ho < 8 by omega) (show vi < 8 by omega) (show ho1 < 8 by omega) (show vi1 < 8 by omega) (show fr < 2000000 by omega) (show to' < 2000000 by omega) (show t < 2000000 by omega) s
      refine rb_iload C dL_holds_7 rfl ?_
      refine rb_if_lt C 67 dL_holds_9 (by decide) (fun h9 => absurd h9 (nI_pos (show dd < 2 ^ 31 by omega))) (fun _ => ?_)
      refine rb_aload_n C dL_holds_12 rfl ?_
      refine rb_bipush C dL_holds_13 (v := 6) (by decide) ?_
      refine rb_iload C dL_holds_15 rfl ?_
      refine rq_imul C (z := (nI (6 * dd))) dL_holds_17 (pk_mul 6 dd) ?_
      refine rw_iald C (x := (nI (8 * ho1 + vi1))) 60 (6 * dd) dL_holds_18 rfl (hm 3 (by decide)) (vp_in_nI (show 6 * dd < 60 by omega) (by decide)) (nI_clamp (show 6 * dd < 2 ^ 31 by omega)) (a0) ?_
      refine rb_bipush C dL_holds_19 (v := 8) (by decide) ?_
      refine rb_iload_n C dL_holds_21 rfl ?_
      refine rq_imul C (z := (nI (8 * ho))) dL_holds_22 (pk_mul 8 ho) ?_
      refine rb_iload_n C dL_holds_23 rfl ?_
      refine rq_iadd C (z := (nI (8 * ho + vi))) dL_holds_24 (nI_add (8 * ho) vi) ?_
      refine rb_icmp_ne C 61 dL_holds_25 (by decide) (fun h25 => ?_) (fun h25 => ?_)
      · replace h25 := mt (nI_eq (a := 8 * ho1 + vi1) (b := 8 * ho + vi) (by omega) (by omega)).mpr h25
        refine rq_iinc C dL_holds_61 rfl (v := (nI dd - 1)) (nI_dec dd) rfl (Lv' := [_, _, _, _, _]) rfl ?_
        refine rb_goto C 7 dL_holds_64 (by decide) ?_
        exact ih (by omega) (by rw [hq, fo_s, hag, if_neg (fun z => by omega)])
      · replace h25 := (nI_eq (a := 8 * ho1 + vi1) (b := 8 * ho + vi) (by omega) (by omega)).mp h25
        refine rb_aload_n C dL_holds_28 rfl ?_
        refine rb_bipush C dL_holds_29 (v := 6) (by decide) ?_
        refine rb_iload C dL_holds_31 rfl ?_
        refine rq_imul C (z := (nI (6 * dd))) dL_holds_33 (pk_mul 6 dd) ?_
        refine rb_iconst C dL_holds_34 (v := 1) (by decide) ?_
        refine rq_iadd C (z := (nI (6 * dd + 1))) dL_holds_35 (nI_add (6 * dd) 1) ?_
        refine rw_iald C (x := (nI fr)) 60 (6 * dd + 1) dL_holds_36 rfl (hm 3 (by decide)) (vp_in_nI (show 6 * dd + 1 < 60 by omega) (by decide)) (nI_clamp (show 6 * dd + 1 < 2 ^ 31 by omega)) (a1) ?_
        refine rb_aload_n C dL_holds_37 rfl ?_
        refine rb_iconst C dL_holds_38 (v := 0) (by decide) ?_
        refine rw_iald C (x := (nI t)) 44 (0) dL_holds_39 rfl (hm 0 (by decide)) (show ¬ (((0 : Int32)) < 0 ∨ 44 ≤ (0 : Int32).toNatClampNeg) by decide) rfl ((lr_g0 hl)) ?_
        refine rb_icmp_gt C 61 dL_holds_40 (by decide) (fun h40 => ?_) (fun h40 => ?_)
        · replace h40 := (nI_ltI (a := t) (b := fr) (by omega) (by omega)).mp h40
          refine rq_iinc C dL_holds_61 rfl (v := (nI dd - 1)) (nI_dec dd) rfl (Lv' := [_, _, _, _, _]) rfl ?_
          refine rb_goto C 7 dL_holds_64 (by decide) ?_
          exact ih (by omega) (by rw [hq, fo_s, hag, if_neg (fun z => by omega)])
        · replace h40 := mt (nI_ltI (a := t) (b := fr) (by omega) (by omega)).mpr h40
          refine rb_aload_n C dL_holds_43 rfl ?_
          refine rb_iconst C dL_holds_44 (v := 0) (by decide) ?_
          refine rw_iald C (x := (nI t)) 44 (0) dL_holds_45 rfl (hm 0 (by decide)) (show ¬ (((0 : Int32)) < 0 ∨ 44 ≤ (0 : Int32).toNatClampNeg) by decide) rfl ((lr_g0 hl)) ?_
          refine rb_aload_n C dL_holds_46 rfl ?_
          refine rb_bipush C dL_holds_47 (v := 6) (by decide) ?_
          refine rb_iload C dL_holds_49 rfl ?_
          refine rq_imul C (z := (nI (6 * dd))) dL_holds_51 (pk_mul 6 dd) ?_
          refine rb_iconst C dL_holds_52 (v := 2) (by decide) ?_
          refine rq_iadd C (z := (nI (6 * dd + 2))) dL_holds_53 (nI_add (6 * dd) 2) ?_
          refine rw_iald C (x := (nI to')) 60 (6 * dd + 2) dL_holds_54 rfl (hm 3 (by decide)) (vp_in_nI (show 6 * dd + 2 < 60 by omega) (by decide)) (nI_clamp (show 6 * dd + 2 < 2 ^ 31 by omega)) (a2) ?_
          refine rb_icmp_ge C 61 dL_holds_55 (by decide) (fun h55 => ?_) (fun h55 => ?_)
          · replace h55 := (nI_leI (a := to') (b := t) (by omega) (by omega)).mp h55
            refine rq_iinc C dL_holds_61 rfl (v := (nI dd - 1)) (nI_dec dd) rfl (Lv' := [_, _, _, _, _]) rfl ?_
            refine rb_goto C 7 dL_holds_64 (by decide) ?_
            exact ih (by omega) (by rw [hq, fo_s, hag, if_neg (fun z => by omega)])
          · replace h55 := mt (nI_leI (a := to') (b := t) (by omega) (by omega)).mpr h55
            refine rb_iload C dL_holds_58 rfl ?_
            exact rb_iret C E dL_holds_60 (Nat.le_of_ble_eq_true rfl) (Nat.le_of_ble_eq_true rfl) (⟨by rw [hq, fo_s, hag, if_pos (by omega)], rfl⟩)
  exact loop7 A (Nat.le_refl _) (by unfold m_agreement; rw [lm_A hl, nI_clamp (by omega)])

theorem rs_eq {M : rb_I} {s n ho pl : Nat} (hs : s < 10) (hn : n < 6) (e16 : M (14, 16, 0) s = nI ho) (e17 : M (14, 17, 0) s = nI pl) (hpl : pl < 8) : m_reason M (nI s) (nI n) = if m_isIn (M (14, 2, 0) pl) (nI n) = 0 then 1 else if M (15, 3, 0) n = 0 then (if m_isIn (M (14, 18, 0) s) (nI n) = 0 then (if nI n = nI ho then 0 else if m_agreement M (nI ho) (nI n) = -1 then 4 else 0) else 3) else 2 := by
  unfold m_reason
  rw [nI_clamp (show s < 2 ^ 31 by omega), nI_clamp (show n < 2 ^ 31 by omega), e17, e16, nI_clamp (show pl < 2 ^ 31 by omega)]
set_option maxRecDepth 100000 in
set_option maxHeartbeats 4000000 in
theorem k_L_reason (l : Launch) (X : rb_X) (G : rb_G) (W M : rb_I) (hm : MS G) {S A R P t d : Nat} (hl : lx W M S A R P t d) (s n : Nat) (hs : s < S) (hn : n < 6) : rb_N l X yL_reason (.code yL_reason cL_reason 5 (some .int)) 2 36 0 0 [rbI (nI s), rbI (nI n), rbR (14, 1, 0), rbR (14, 3, 0), rbR (14, 0, 0)] (wI G W) (fun v9 G9 => v9 = some (rbI (m_reason M (nI s) (nI n))) ∧ G9 = wI G W) := by
  refine rb_startN RL rfl (by decide +kernel) rfl (Nat.le_of_ble_eq_true rfl) ?_
  intro Φ C E nm
  show rb_W Φ 0 0 0 [some (rbI (nI s)), some (rbI (nI n)), some (rbR (14, 1, 0)), some (rbR (14, 3, 0)), some (rbR (14, 0, 0))] [] (wI G W)
  obtain ⟨hS6, hA10, hRP, hP58, -, hd64, htm⟩ := lr_b hl
  obtain ⟨pl, hpl, e17⟩ := vp_nat (lr_pl hl hs)
  obtain ⟨ho, hho, e16⟩ := vp_nat (lr_ho hl hs)
  refine rb_aload C dL_reason_0 rfl ?_
  refine rb_bipush C dL_reason_2 (v := 18) (by decide) ?_
  refine rb_aload_n C dL_reason_4 rfl ?_
  refine rb_bipush C dL_reason_5 (v := 8) (by decide) ?_
  refine rb_iload_n C dL_reason_7 rfl ?_
  refine rq_imul C (z := (nI (8 * s))) dL_reason_8 (pk_mul 8 s) ?_
  refine rb_iconst C dL_reason_9 (v := 1) (by decide) ?_
  refine rq_iadd C (z := (nI (8 * s + 1))) dL_reason_10 (nI_add (8 * s) 1) ?_
  refine rw_iald C (x := (nI pl)) 48 (8 * s + 1) dL_reason_11 rfl (hm 1 (by decide)) (vp_in_nI (show 8 * s + 1 < 48 by omega) (by decide)) (nI_clamp (show 8 * s + 1 < 2 ^ 31 by omega)) ((lr_x1 hl hs).trans e17) ?_
  refine rq_iadd C (z := (nI (18 + pl))) dL_reason_12 (nI_add 18 pl) ?_
  refine rw_iald C (x := (M (14, 2, 0) pl)) 44 (18 + pl) dL_reason_13 rfl (hm 0 (by decide)) (vp_in_nI (show 18 + pl < 44 by omega) (by decide)) (nI_clamp (show 18 + pl < 2 ^ 31 by omega)) ((lr_R hl (p := pl) (by omega)).1) ?_
  refine rb_iload_n C dL_reason_14 rfl ?_
  refine rq_ishr C (z := ((M (14, 2, 0) pl) >>> ((nI n) &&& 31))) dL_reason_15 rfl ?_
  refine rb_iconst C dL_reason_16 (v := 1) (by decide) ?_
  refine rq_iand C (z := (((M (14, 2, 0) pl) >>> ((nI n) &&& 31)) &&& (1 : Int32))) dL_reason_17 rfl ?_
  refine rb_if_ne C 23 dL_reason_18 (by decide) (fun h18 => ?_) (fun h18 => ?_)
  · refine rb_aload C dL_reason_23 rfl ?_
    refine rb_iconst C dL_reason_25 (v := 5) (by decide) ?_
    refine rw_iald C (x := (nI d)) 44 (5) dL_reason_26 rfl (hm 0 (by decide)) (show ¬ (((5 : Int32)) < 0 ∨ 44 ≤ (5 : Int32).toNatClampNeg) by decide) rfl ((lr_g5 hl)) ?_
    refine rb_iload_n C dL_reason_27 rfl ?_
    refine rq_ishr C (z := (nI (d / 2 ^ n))) dL_reason_28 (bs_shr (by omega) (by omega)) ?_
    refine rb_iconst C dL_reason_29 (v := 1) (by decide) ?_
    refine rq_iand C (z := (nI (d / 2 ^ n % 2))) dL_reason_30 (bs_and (Nat.lt_of_le_of_lt (Nat.div_le_self _ _) (by omega)) 1 rfl) ?_
    refine rb_iconst C dL_reason_31 (v := 1) (by decide) ?_
    refine rb_icmp_ne C 37 dL_reason_32 (by decide) (fun h32 => ?_) (fun h32 => ?_)
    · replace h32 := mt (nI_eq (a := d / 2 ^ n % 2) (b := 1) (by omega) (by omega)).mpr h32
      refine rb_aload_n C dL_reason_37 rfl ?_
      refine rb_bipush C dL_reason_38 (v := 8) (by decide) ?_
      refine rb_iload_n C dL_reason_40 rfl ?_
      refine rq_imul C (z := (nI (8 * s))) dL_reason_41 (pk_mul 8 s) ?_
      refine rb_iconst C dL_reason_42 (v := 2) (by decide) ?_
      refine rq_iadd C (z := (nI (8 * s + 2))) dL_reason_43 (nI_add (8 * s) 2) ?_
      refine rw_iald C (x := (M (14, 18, 0) s)) 48 (8 * s + 2) dL_reason_44 rfl (hm 1 (by decide)) (vp_in_nI (show 8 * s + 2 < 48 by omega) (by decide)) (nI_clamp (show 8 * s + 2 < 2 ^ 31 by omega)) ((lr_x2 hl (s := s) (by omega))) ?_
      refine rb_iload_n C dL_reason_45 rfl ?_
      refine rq_ishr C (z := ((M (14, 18, 0) s) >>> ((nI n) &&& 31))) dL_reason_46 rfl ?_
      refine rb_iconst C dL_reason_47 (v := 1) (by decide) ?_
      refine rq_iand C (z := (((M (14, 18, 0) s) >>> ((nI n) &&& 31)) &&& (1 : Int32))) dL_reason_48 rfl ?_
      refine rb_iconst C dL_reason_49 (v := 1) (by decide) ?_
      refine rb_icmp_ne C 55 dL_reason_50 (by decide) (fun h50 => ?_) (fun h50 => ?_)
      · refine rb_aload_n C dL_reason_55 rfl ?_
        refine rb_bipush C dL_reason_56 (v := 8) (by decide) ?_
        refine rb_iload_n C dL_reason_58 rfl ?_
        refine rq_imul C (z := (nI (8 * s))) dL_reason_59 (pk_mul 8 s) ?_
        refine rw_iald C (x := (nI ho)) 48 (8 * s) dL_reason_60 rfl (hm 1 (by decide)) (vp_in_nI (show 8 * s < 48 by omega) (by decide)) (nI_clamp (show 8 * s < 2 ^ 31 by omega)) ((lr_x0 hl hs).trans e16) ?_
        refine rb_iload_n C dL_reason_61 rfl ?_
        refine rb_icmp_eq C 82 dL_reason_62 (by decide) (fun h62 => ?_) (fun h62 => ?_)
        · replace h62 := (nI_eq (a := ho) (b := n) (by omega) (by omega)).mp h62
          refine rb_iconst C dL_reason_82 (v := 0) (by decide) ?_
          refine rb_goto C 87 dL_reason_83 (by decide) ?_
          exact rb_iret C E dL_reason_87 (Nat.le_of_ble_eq_true rfl) (Nat.le_of_ble_eq_true rfl) (⟨by rw [rs_eq (by omega) hn e16 e17 (by omega), if_neg (isIn_1 h18), (lr_N hl hn).1, if_pos (by rw [show d / 2 ^ n % 2 = 0 by omega]; rfl), if_pos (isIn_n h50), if_pos (by rw [h62])], rfl⟩)
        · replace h62 := mt (nI_eq (a := ho) (b := n) (by omega) (by omega)).mpr h62
          refine rb_aload_n C dL_reason_65 rfl ?_
          refine rb_bipush C dL_reason_66 (v := 8) (by decide) ?_
          refine rb_iload_n C dL_reason_68 rfl ?_
          refine rq_imul C (z := (nI (8 * s))) dL_reason_69 (pk_mul 8 s) ?_
          refine rw_iald C (x := (nI ho)) 48 (8 * s) dL_reason_70 rfl (hm 1 (by decide)) (vp_in_nI (show 8 * s < 48 by omega) (by decide)) (nI_clamp (show 8 * s < 2 ^ 31 by omega)) ((lr_x0 hl hs).trans e16) ?_
          refine rb_iload_n C dL_reason_71 rfl ?_
          refine rb_aload_n C dL_reason_72 rfl ?_
          refine rb_aload C dL_reason_73 rfl ?_
          refine rb_callS C M_L_101 (fun l X => (k_L_holds l X G W M hm hl ho n (by omega) hn).m) dL_reason_75 rfl rfl rfl (Nat.le_of_ble_eq_true rfl) ⟨(Nat.le_of_ble_eq_true rfl), (Nat.le_of_ble_eq_true rfl)⟩ (by omega) (by omega) (fun v G' hp => ?_) (fun _ _ hp => hp.elim)
          obtain ⟨rfl, e9⟩ := hp
          rw [e9]
          clear e9 G'
          refine rb_iconst C dL_reason_78 (v := (-1)) (by decide) ?_
          refine rb_icmp_eq C 86 dL_reason_79 (by decide) (fun h79 => ?_) (fun h79 => ?_)
          · refine rb_iconst C dL_reason_86 (v := 4) (by decide) ?_
            exact rb_iret C E dL_reason_87 (by omega) (by omega) (⟨by rw [rs_eq (by omega) hn e16 e17 (by omega), if_neg (isIn_1 h18), (lr_N hl hn).1, if_pos (by rw [show d / 2 ^ n % 2 = 0 by omega]; rfl), if_pos (isIn_n h50), if_neg (fun q => h62 ((nI_eq (by omega) (by omega)).mp q).symm), if_pos h79], rfl⟩)
          · refine rb_iconst C dL_reason_82 (v := 0) (by decide) ?_
            refine rb_goto C 87 dL_reason_83 (by decide) ?_
            exact rb_iret C E dL_reason_87 (by omega) (by omega) (⟨by rw [rs_eq (by omega) hn e16 e17 (by omega), if_neg (isIn_1 h18), (lr_N hl hn).1, if_pos (by rw [show d / 2 ^ n % 2 = 0 by omega]; rfl), if_pos (isIn_n h50), if_neg (fun q => h62 ((nI_eq (by omega) (by omega)).mp q).symm), if_neg h79], rfl⟩)
      · refine rb_iconst C dL_reason_53 (v := 3) (by decide) ?_
        exact rb_iret C E dL_reason_54 (Nat.le_of_ble_eq_true rfl) (Nat.le_of_ble_eq_true rfl) (⟨by rw [rs_eq (by omega) hn e16 e17 (by omega), if_neg (isIn_1 h18), (lr_N hl hn).1, if_pos (by rw [show d / 2 ^ n % 2 = 0 by omega]; rfl), if_neg (isIn_y h50)], rfl⟩)
    · replace h32 := (nI_eq (a := d / 2 ^ n % 2) (b := 1) (by omega) (by omega)).mp h32
      refine rb_iconst C dL_reason_35 (v := 2) (by decide) ?_
      exact rb_iret C E dL_reason_36 (Nat.le_of_ble_eq_true rfl) (Nat.le_of_ble_eq_true rfl) (⟨by rw [rs_eq (by omega) hn e16 e17 (by omega), if_neg (isIn_1 h18), (lr_N hl hn).1, if_neg (by rw [h32]; decide)], rfl⟩)
  · refine rb_iconst C dL_reason_21 (v := 1) (by decide) ?_
    exact rb_iret C E dL_reason_22 (Nat.le_of_ble_eq_true rfl) (Nat.le_of_ble_eq_true rfl) (⟨by rw [rs_eq (by omega) hn e16 e17 (by omega), if_pos (isIn_0 h18)], rfl⟩)

theorem mk_eq {M : rb_I} {s n lo t : Nat} (hs : s < 10) (hn : n < 6) (hlo : lo < 100) (e19 : M (14, 19, 0) s = nI n) (e6 : M (14, 6, 0) n = nI lo) (et : M (16, 0, 0) 1 = nI t) : m_makesContact M (nI s) = if lo = 0 then (if M (14, 21, 0) s = -1 then up2 (up2 M (14, 27, 0) (10 * n + s) (nI t)) (14, 21, 0) s (nI n) else if M (14, 21, 0) s = nI n then up2 (up2 M (14, 27, 0) (10 * n + s) (nI t)) (14, 21, 0) s (nI n) else up2 (up2 (up2 M (14, 27, 0) (10 * n + s) (nI t)) (14, 27, 0) (10 * (M (14, 21, 0) s).toNatClampNeg + s) (-1)) (14, 21, 0) s (nI n)) else up2 (up2 M (14, 27, 0) (10 * n + s) (nI t)) (14, 6, 0) n (nI lo - 1) := by
  unfold m_makesContact
  rw [nI_clamp (show s < 2 ^ 31 by omega), e19, nI_clamp (show n < 2 ^ 31 by omega), e6, et]
  by_cases e : lo = 0
  · rw [if_pos (by rw [e]; decide), if_pos e]
  · rw [if_neg (nI_nle (by omega) (by omega)), if_neg e]
set_option maxRecDepth 100000 in
set_option maxHeartbeats 4000000 in
theorem k_L_meets (l : Launch) (X : rb_X) (G : rb_G) (W M : rb_I) (hm : MS G) {S A R P t d : Nat} (hl : lx W M S A R P t d) (s n : Nat) (hs : s < S) (hn : n < 6) (e19 : M (14, 19, 0) s = nI n) : rb_N l X yL_meets (.code yL_meets cL_meets 6 none) 1 12 0 0 [rbI (nI s), rbR (14, 1, 0), rbR (14, 2, 0), rbR (14, 0, 0)] (wI G W) (fun v9 G9 => v9 = none ∧ ∃ W1, G9 = wI G W1 ∧ lx W1 (m_makesContact M (nI s)) S A R P t d ∧ cf W W1) := by
  refine rb_startN RL rfl (by decide +kernel) rfl (Nat.le_of_ble_eq_true rfl) ?_
  intro Φ C E nm
  show rb_W Φ 0 0 0 [some (rbI (nI s)), some (rbR (14, 1, 0)), some (rbR (14, 2, 0)), some (rbR (14, 0, 0)), none, none] [] (wI G W)
  obtain ⟨hS6, hA10, hRP, hP58, -, hd64, htm⟩ := lr_b hl
  obtain ⟨lo, hlo, e6⟩ := vp_nat (lr_N hl hn).2.2.2.2
  have hf0 := cf_rf W
  refine rb_aload_n C dL_meets_0 rfl ?_
  refine rb_bipush C dL_meets_1 (v := 8) (by decide) ?_
  refine rb_iload_n C dL_meets_3 rfl ?_
  refine rq_imul C (z := (nI (8 * s))) dL_meets_4 (pk_mul 8 s) ?_
  refine rb_iconst C dL_meets_5 (v := 3) (by decide) ?_
  refine rq_iadd C (z := (nI (8 * s + 3))) dL_meets_6 (nI_add (8 * s) 3) ?_
  refine rw_iald C (x := (nI n)) 48 (8 * s + 3) dL_meets_7 rfl (hm 1 (by decide)) (vp_in_nI (show 8 * s + 3 < 48 by omega) (by decide)) (nI_clamp (show 8 * s + 3 < 2 ^ 31 by omega)) ((lr_x3 hl hs).trans e19) ?_
  refine rb_istore C dL_meets_8 (Nat.le_of_ble_eq_true rfl) rfl (Lv' := [_, _, _, _, _, _]) rfl ?_
  refine rb_aload_n C dL_meets_10 rfl ?_
  refine rb_bipush C dL_meets_11 (v := 6) (by decide) ?_
  refine rb_iload C dL_meets_13 rfl ?_
  refine rq_imul C (z := (nI (6 * n))) dL_meets_15 (pk_mul 6 n) ?_
  refine rb_iload_n C dL_meets_16 rfl ?_
  refine rq_iadd C (z := (nI (6 * n + s))) dL_meets_17 (nI_add (6 * n) s) ?_
  refine rb_aload_n C dL_meets_18 rfl ?_
  refine rb_iconst C dL_meets_19 (v := 0) (by decide) ?_
  refine rw_iald C (x := (nI t)) 44 (0) dL_meets_20 rfl (hm 0 (by decide)) (show ¬ (((0 : Int32)) < 0 ∨ 44 ≤ (0 : Int32).toNatClampNeg) by decide) rfl ((lr_g0 hl)) ?_
  refine rw_iast C 36 (6 * n + s) dL_meets_21 rfl (hm 2 (by decide)) (vp_in_nI (show 6 * n + s < 36 by omega) (by decide)) (nI_clamp (show 6 * n + s < 2 ^ 31 by omega)) ?_
  have hl1 := lu_bk hl (n0 := n) (j := s) hn (by omega) (v := nI t) (Or.inr ⟨hs, t, Nat.le_refl _, rfl⟩)
  have hf1 := cf_up hf0 2 (6 * n + s) (nI t)
  generalize up2 W (14, 2, 0) (6 * n + s) (nI t) = W1 at hl1 hf1 ⊢
  refine rb_aload_n C dL_meets_22 rfl ?_
  refine rb_bipush C dL_meets_23 (v := 12) (by decide) ?_
  refine rb_iload C dL_meets_25 rfl ?_
  refine rq_iadd C (z := (nI (12 + n))) dL_meets_27 (nI_add 12 n) ?_
  refine rw_iald C (x := (nI lo)) 44 (12 + n) dL_meets_28 rfl (hm 0 (by decide)) (vp_in_nI (show 12 + n < 44 by omega) (by decide)) (nI_clamp (show 12 + n < 2 ^ 31 by omega)) (((lr_N hl1 hn).2.2.2.1).trans ((up2_n _ _ _ _ (by simp)).trans e6)) ?_
  refine rb_if_le C 44 dL_meets_29 (by decide) (fun h29 => ?_) (fun h29 => ?_)
  · replace h29 := (nI_leI (a := lo) (b := 0) (by omega) (by omega)).mp h29
    refine rb_aload_n C dL_meets_44 rfl ?_
    refine rb_bipush C dL_meets_45 (v := 8) (by decide) ?_
    refine rb_iload_n C dL_meets_47 rfl ?_
    refine rq_imul C (z := (nI (8 * s))) dL_meets_48 (pk_mul 8 s) ?_
    refine rb_iconst C dL_meets_49 (v := 5) (by decide) ?_
    refine rq_iadd C (z := (nI (8 * s + 5))) dL_meets_50 (nI_add (8 * s) 5) ?_
    refine rw_iald C (x := (M (14, 21, 0) s)) 48 (8 * s + 5) dL_meets_51 rfl (hm 1 (by decide)) (vp_in_nI (show 8 * s + 5 < 48 by omega) (by decide)) (nI_clamp (show 8 * s + 5 < 2 ^ 31 by omega)) ((lr_x5 hl1 hs).trans (up2_n _ _ _ _ (by simp))) ?_
    refine rb_istore C dL_meets_52 (Nat.le_of_ble_eq_true rfl) rfl (Lv' := [_, _, _, _, _, _]) rfl ?_
    refine rb_aload_n C dL_meets_54 rfl ?_
    refine rb_bipush C dL_meets_55 (v := 8) (by decide) ?_
    refine rb_iload_n C dL_meets_57 rfl ?_
    refine rq_imul C (z := (nI (8 * s))) dL_meets_58 (pk_mul 8 s) ?_
    refine rb_iconst C dL_meets_59 (v := 5) (by decide) ?_
    refine rq_iadd C (z := (nI (8 * s + 5))) dL_meets_60 (nI_add (8 * s) 5) ?_
    refine rb_iload C dL_meets_61 rfl ?_
    refine rw_iast C 48 (8 * s + 5) dL_meets_63 rfl (hm 1 (by decide)) (vp_in_nI (show 8 * s + 5 < 48 by omega) (by decide)) (nI_clamp (show 8 * s + 5 < 2 ^ 31 by omega)) ?_
    have hl2 := lu_nt hl1 (j := s) hs (v := nI n) (at6_nI hn)
    have hf2 := cf_up hf1 1 (8 * s + 5) (nI n)
    generalize up2 W1 (14, 1, 0) (8 * s + 5) (nI n) = W2 at hl2 hf2 ⊢
    refine rb_iload C dL_meets_64 rfl ?_
    refine rb_iconst C dL_meets_66 (v := (-1)) (by decide) ?_
    refine rb_icmp_eq C 87 dL_meets_67 (by decide) (fun h67 => ?_) (fun h67 => ?_)
    · exact rb_vret C E dL_meets_87 (Nat.le_of_ble_eq_true rfl) (Nat.le_of_ble_eq_true rfl) (⟨rfl, W2, rfl, by rw [mk_eq (by omega) hn (by omega) e19 e6 (lm_t hl), if_pos (by omega), if_pos h67]; exact hl2, hf2⟩)
    · obtain ⟨was, hwas, ewas⟩ := at6_nat (lr_nt hl hs) h67
      rw [ewas]
      refine rb_iload C dL_meets_70 rfl ?_
      refine rb_iload C dL_meets_72 rfl ?_
      refine rb_icmp_eq C 87 dL_meets_74 (by decide) (fun h74 => ?_) (fun h74 => ?_)
      · replace h74 := (nI_eq (a := was) (b := n) (by omega) (by omega)).mp h74
        exact rb_vret C E dL_meets_87 (Nat.le_of_ble_eq_true rfl) (Nat.le_of_ble_eq_true rfl) (⟨rfl, W2, rfl, by rw [mk_eq (by omega) hn (by omega) e19 e6 (lm_t hl), if_pos (by omega), if_neg h67, if_pos (by rw [ewas, h74])]; exact hl2, hf2⟩)
      · replace h74 := mt (nI_eq (a := was) (b := n) (by omega) (by omega)).mpr h74
        refine rb_aload_n C dL_meets_77 rfl ?_
        refine rb_bipush C dL_meets_78 (v := 6) (by decide) ?_
        refine rb_iload C dL_meets_80 rfl ?_
        refine rq_imul C (z := (nI (6 * was))) dL_meets_82 (pk_mul 6 was) ?_
        refine rb_iload_n C dL_meets_83 rfl ?_
        refine rq_iadd C (z := (nI (6 * was + s))) dL_meets_84 (nI_add (6 * was) s) ?_
        refine rb_iconst C dL_meets_85 (v := (-1)) (by decide) ?_
        refine rw_iast C 36 (6 * was + s) dL_meets_86 rfl (hm 2 (by decide)) (vp_in_nI (show 6 * was + s < 36 by omega) (by decide)) (nI_clamp (show 6 * was + s < 2 ^ 31 by omega)) ?_
        have hl3 := lu_bk hl2 (n0 := was) (j := s) hwas (by omega) (v := -1) (Or.inl rfl)
        have hf3 := cf_up hf2 2 (6 * was + s) (-1)
        generalize up2 W2 (14, 2, 0) (6 * was + s) (-1) = W3 at hl3 hf3 ⊢
        exact rb_vret C E dL_meets_87 (Nat.le_of_ble_eq_true rfl) (Nat.le_of_ble_eq_true rfl) (⟨rfl, W3, rfl, by rw [mk_eq (by omega) hn (by omega) e19 e6 (lm_t hl), if_pos (by omega), if_neg h67, if_neg (by rw [ewas]; exact fun q => h74 ((nI_eq (by omega) (by omega)).mp q)), ewas, nI_clamp (by omega), up2_cm (by simp)]; exact hl3, hf3⟩)
  · replace h29 := mt (nI_leI (a := lo) (b := 0) (by omega) (by omega)).mpr h29
    refine rb_aload_n C dL_meets_32 rfl ?_
    refine rb_bipush C dL_meets_33 (v := 12) (by decide) ?_
    refine rb_iload C dL_meets_35 rfl ?_
    refine rq_iadd C (z := (nI (12 + n))) dL_meets_37 (nI_add 12 n) ?_
    refine rb_dup2 C dL_meets_38 rfl rfl ?_
    refine rw_iald C (x := (nI lo)) 44 (12 + n) dL_meets_39 rfl (hm 0 (by decide)) (vp_in_nI (show 12 + n < 44 by omega) (by decide)) (nI_clamp (show 12 + n < 2 ^ 31 by omega)) (((lr_N hl1 hn).2.2.2.1).trans ((up2_n _ _ _ _ (by simp)).trans e6)) ?_
    refine rb_iconst C dL_meets_40 (v := 1) (by decide) ?_
    refine rq_isub C (z := (nI (lo - 1))) dL_meets_41 (pk_sub (a := lo) (b := 1) (by omega)) ?_
    refine rw_iast C 44 (12 + n) dL_meets_42 rfl (hm 0 (by decide)) (vp_in_nI (show 12 + n < 44 by omega) (by decide)) (nI_clamp (show 12 + n < 2 ^ 31 by omega)) ?_
    have hl4 := lu_los hl1 (j := n) hn (v := nI (lo - 1)) (vp_in_nI (by omega) (by decide))
    have hf4 := cf_up hf1 0 (12 + n) (nI (lo - 1))
    generalize up2 W1 (14, 0, 0) (12 + n) (nI (lo - 1)) = W4 at hl4 hf4 ⊢
    exact rb_vret C E dL_meets_43 (Nat.le_of_ble_eq_true rfl) (Nat.le_of_ble_eq_true rfl) (⟨rfl, W4, rfl, by rw [mk_eq (by omega) hn (by omega) e19 e6 (lm_t hl), if_neg (by omega), show nI lo - 1 = nI (lo - 1) from pk_sub (a := lo) (b := 1) (by omega)]; exact hl4, hf4⟩)

set_option maxRecDepth 100000 in
set_option maxHeartbeats 4000000 in
theorem k_L_paid_all (l : Launch) (X : rb_X) (G : rb_G) (W M : rb_I) (hm : MS G) {S A R P t d : Nat} (hl : lx W M S A R P t d) (s : Nat) (hs : s < 8) : rb_N l X yL_paid (.code yL_paid cL_paid 8 (some .int)) 1 12 0 0 [rbI (nI s), rbI 0, rbR (14, 7, 0), rbR (14, 8, 0), rbR (14, 0, 0)] (wI G W) (fun v9 G9 => v9 = some (rbI (fo (py_a W (nI s)) P 0)) ∧ G9 = wI G W) := by
  refine rb_startN RL rfl (by decide +kernel) rfl (Nat.le_of_ble_eq_true rfl) ?_
  intro Φ C E nm
  show rb_W Φ 0 0 0 [some (rbI (nI s)), some (rbI 0), some (rbR (14, 7, 0)), some (rbR (14, 8, 0)), some (rbR (14, 0, 0)), none, none, none] [] (wI G W)
  obtain ⟨hS6, hA10, hRP, hP58, -, hd64, htm⟩ := lr_b hl
  refine rb_iconst C dL_paid_0 (v := 0) (by decide) ?_
  refine rb_istore C dL_paid_1 (Nat.le_of_ble_eq_true rfl) rfl (Lv' := [_, _, _, _, _, _, _, _]) rfl ?_
  refine rb_iconst C dL_paid_3 (v := 0) (by decide) ?_
  refine rb_istore C dL_paid_4 (Nat.le_of_ble_eq_true rfl) rfl (Lv' := [_, _, _, _, _, _, _, _]) rfl ?_
  have loop6 : ∀ (dd : Nat) (k : Nat), k + dd = P → rb_W Φ 0 0 6 [some (rbI (nI s)), some (rbI 0), some (rbR (14, 7, 0)), some (rbR (14, 8, 0)), some (rbR (14, 0, 0)), some (rbI (fo (py_a W (nI s)) k 0)), some (rbI (nI k)), none] [] (wI G W) := by
    intro dd
    induction dd with
    | zero =>
      intro k hk
      refine rb_iload C dL_paid_6 rfl ?_
      refine rb_aload C dL_paid_8 rfl ?_
      refine rb_iconst C dL_paid_10 (v := 4) (by decide) ?_
      refine rw_iald C (x := (nI P)) 44 (4) dL_paid_11 rfl (hm 0 (by decide)) (show ¬ (((4 : Int32)) < 0 ∨ 44 ≤ (4 : Int32).toNatClampNeg) by decide) rfl ((lr_g4 hl)) ?_
      refine rb_icmp_ge C 90 dL_paid_12 (by decide) (fun _ => ?_) (fun h9 => absurd ((nI_le (a := P) (b := k) (by omega) (by omega))) h9)
      refine rb_iload C dL_paid_90 rfl ?_
      exact rb_iret C E dL_paid_92 (Nat.le_of_ble_eq_true rfl) (Nat.le_of_ble_eq_true rfl) (⟨by rw [show k = P by omega], rfl⟩)
    | succ dd ih =>
      intro k hk
      refine rb_iload C dL_paid_6 rfl ?_
      refine rb_aload C dL_paid_8 rfl ?_
      refine rb_iconst C dL_paid_10 (v := 4) (by decide) ?_
      refine rw_iald C (x := (nI P)) 44 (4) dL_paid_11 rfl (hm 0 (by decide)) (show ¬ (((4 : Int32)) < 0 ∨ 44 ≤ (4 : Int32).toNatClampNeg) by decide) rfl ((lr_g4 hl)) ?_
      refine rb_icmp_ge C 90 dL_paid_12 (by decide) (fun h9 => absurd h9 ((nI_ge (a := k) (b := P) (by omega) (by omega)))) (fun _ => ?_)
      refine rb_iload_n C dL_paid_15 rfl ?_
      refine rb_if_eq C 46 dL_paid_16 (by decide) (fun _ => ?_) (fun h9 => absurd (by decide) h9)
      refine rb_iconst C dL_paid_46 (v := 1) (by decide) ?_
      refine rb_goto C 51 dL_paid_47 (by decide) ?_
      refine rb_istore C dL_paid_51 (Nat.le_of_ble_eq_true rfl) rfl (Lv' := [_, _, _, _, _, _, _, _]) rfl ?_
      refine rb_iload C dL_paid_53 rfl ?_
      refine rb_aload_n C dL_paid_55 rfl ?_
      refine rb_iload C dL_paid_56 rfl ?_
      refine rw_iald C (x := (W (14, 7, 0) k)) 60 (k) dL_paid_58 rfl (hm 7 (by decide)) (vp_in_nI (show k < 60 by omega) (by decide)) (nI_clamp (show k < 2 ^ 31 by omega)) (rfl) ?_
      refine rb_bipush C dL_paid_59 (v := 7) (by decide) ?_
      refine rq_iand C (z := ((W (14, 7, 0) k) &&& (7 : Int32))) dL_paid_61 rfl ?_
      refine rb_iload_n C dL_paid_62 rfl ?_
      refine rb_icmp_ne C 80 dL_paid_63 (by decide) (fun h63 => ?_) (fun h63 => ?_)
      · refine rb_iconst C dL_paid_80 (v := 0) (by decide) ?_
        refine rq_iadd C (z := (fo (py_a W (nI s)) (k + 1) 0)) dL_paid_81 (by rw [fo_s]; unfold py_a; rw [if_neg h63]) ?_
        refine rb_istore C dL_paid_82 (Nat.le_of_ble_eq_true rfl) rfl (Lv' := [_, _, _, _, _, _, _, _]) rfl ?_
        refine rq_iinc C dL_paid_84 rfl (v := (nI (k + 1))) (nI_1 k) rfl (Lv' := [_, _, _, _, _, _, _, _]) rfl ?_
        refine rb_goto C 6 dL_paid_87 (by decide) ?_
        refine rb_W.unset 7 ?_
        exact ih (k + 1) (by omega)
      · refine rb_iload C dL_paid_66 rfl ?_
        refine rb_if_eq C 80 dL_paid_68 (by decide) (fun h9 => absurd h9 (by decide)) (fun _ => ?_)
        refine rb_aload_n C dL_paid_71 rfl ?_
        refine rb_iload C dL_paid_72 rfl ?_
        refine rw_iald C (x := (W (14, 7, 0) k)) 60 (k) dL_paid_74 rfl (hm 7 (by decide)) (vp_in_nI (show k < 60 by omega) (by decide)) (nI_clamp (show k < 2 ^ 31 by omega)) (rfl) ?_
        refine rb_iconst C dL_paid_75 (v := 4) (by decide) ?_
        refine rq_ishr C (z := ((W (14, 7, 0) k) >>> ((4 : Int32) &&& 31))) dL_paid_76 rfl ?_
        refine rb_goto C 81 dL_paid_77 (by decide) ?_
        refine rq_iadd C (z := (fo (py_a W (nI s)) (k + 1) 0)) dL_paid_81 (by rw [fo_s]; unfold py_a; rw [if_pos h63]) ?_
        refine rb_istore C dL_paid_82 (Nat.le_of_ble_eq_true rfl) rfl (Lv' := [_, _, _, _, _, _, _, _]) rfl ?_
        refine rq_iinc C dL_paid_84 rfl (v := (nI (k + 1))) (nI_1 k) rfl (Lv' := [_, _, _, _, _, _, _, _]) rfl ?_
        refine rb_goto C 6 dL_paid_87 (by decide) ?_
        refine rb_W.unset 7 ?_
        exact ih (k + 1) (by omega)
  have h0 := loop6 P 0 (by omega)
  rw [fo_0, nI_0] at h0
  exact h0

set_option maxRecDepth 100000 in
set_option maxHeartbeats 4000000 in
theorem k_L_paid_month (l : Launch) (X : rb_X) (G : rb_G) (W M : rb_I) (hm : MS G) {S A R P t d : Nat} (hl : lx W M S A R P t d) (s : Nat) (hs : s < 8) : rb_N l X yL_paid (.code yL_paid cL_paid 8 (some .int)) 1 12 0 0 [rbI (nI s), rbI 1, rbR (14, 7, 0), rbR (14, 8, 0), rbR (14, 0, 0)] (wI G W) (fun v9 G9 => v9 = some (rbI (fo (py_m W (nI s) (nI (t / 43200))) P 0)) ∧ G9 = wI G W) := by
  refine rb_startN RL rfl (by decide +kernel) rfl (Nat.le_of_ble_eq_true rfl) ?_
  intro Φ C E nm
  show rb_W Φ 0 0 0 [some (rbI (nI s)), some (rbI 1), some (rbR (14, 7, 0)), some (rbR (14, 8, 0)), some (rbR (14, 0, 0)), none, none, none] [] (wI G W)
  obtain ⟨hS6, hA10, hRP, hP58, -, hd64, htm⟩ := lr_b hl
  refine rb_iconst C dL_paid_0 (v := 0) (by decide) ?_
  refine rb_istore C dL_paid_1 (Nat.le_of_ble_eq_true rfl) rfl (Lv' := [_, _, _, _, _, _, _, _]) rfl ?_
  refine rb_iconst C dL_paid_3 (v := 0) (by decide) ?_
  refine rb_istore C dL_paid_4 (Nat.le_of_ble_eq_true rfl) rfl (Lv' := [_, _, _, _, _, _, _, _]) rfl ?_
  have loop6 : ∀ (dd : Nat) (k : Nat), k + dd = P → rb_W Φ 0 0 6 [some (rbI (nI s)), some (rbI 1), some (rbR (14, 7, 0)), some (rbR (14, 8, 0)), some (rbR (14, 0, 0)), some (rbI (fo (py_m W (nI s) (nI (t / 43200))) k 0)), some (rbI (nI k)), none] [] (wI G W) := by
    intro dd
    induction dd with
    | zero =>
      intro k hk
      refine rb_iload C dL_paid_6 rfl ?_
      refine rb_aload C dL_paid_8 rfl ?_
      refine rb_iconst C dL_paid_10 (v := 4) (by decide) ?_
      refine rw_iald C (x := (nI P)) 44 (4) dL_paid_11 rfl (hm 0 (by decide)) (show ¬ (((4 : Int32)) < 0 ∨ 44 ≤ (4 : Int32).toNatClampNeg) by decide) rfl ((lr_g4 hl)) ?_
      refine rb_icmp_ge C 90 dL_paid_12 (by decide) (fun _ => ?_) (fun h9 => absurd ((nI_le (a := P) (b := k) (by omega) (by omega))) h9)
      refine rb_iload C dL_paid_90 rfl ?_
      exact rb_iret C E dL_paid_92 (Nat.le_of_ble_eq_true rfl) (Nat.le_of_ble_eq_true rfl) (⟨by rw [show k = P by omega], rfl⟩)
    | succ dd ih =>
      intro k hk
      refine rb_iload C dL_paid_6 rfl ?_
      refine rb_aload C dL_paid_8 rfl ?_
      refine rb_iconst C dL_paid_10 (v := 4) (by decide) ?_
      refine rw_iald C (x := (nI P)) 44 (4) dL_paid_11 rfl (hm 0 (by decide)) (show ¬ (((4 : Int32)) < 0 ∨ 44 ≤ (4 : Int32).toNatClampNeg) by decide) rfl ((lr_g4 hl)) ?_
      refine rb_icmp_ge C 90 dL_paid_12 (by decide) (fun h9 => absurd h9 ((nI_ge (a := k) (b := P) (by omega) (by omega)))) (fun _ => ?_)
      refine rb_iload_n C dL_paid_15 rfl ?_
      refine rb_if_eq C 46 dL_paid_16 (by decide) (fun h9 => absurd h9 (by decide)) (fun _ => ?_)
      refine rb_aload_n C dL_paid_19 rfl ?_
      refine rb_iload C dL_paid_20 rfl ?_
      refine rw_iald C (x := (W (14, 7, 0) k)) 60 (k) dL_paid_22 rfl (hm 7 (by decide)) (vp_in_nI (show k < 60 by omega) (by decide)) (nI_clamp (show k < 2 ^ 31 by omega)) (rfl) ?_
      refine rb_bipush C dL_paid_23 (v := 8) (by decide) ?_
      refine rq_iand C (z := ((W (14, 7, 0) k) &&& (8 : Int32))) dL_paid_25 rfl ?_
      refine rb_if_le C 50 dL_paid_26 (by decide) (fun h26 => ?_) (fun h26 => ?_)
      · refine rb_iconst C dL_paid_50 (v := 0) (by decide) ?_
        refine rb_istore C dL_paid_51 (Nat.le_of_ble_eq_true rfl) rfl (Lv' := [_, _, _, _, _, _, _, _]) rfl ?_
        refine rb_iload C dL_paid_53 rfl ?_
        refine rb_aload_n C dL_paid_55 rfl ?_
        refine rb_iload C dL_paid_56 rfl ?_
        refine rw_iald C (x := (W (14, 7, 0) k)) 60 (k) dL_paid_58 rfl (hm 7 (by decide)) (vp_in_nI (show k < 60 by omega) (by decide)) (nI_clamp (show k < 2 ^ 31 by omega)) (rfl) ?_
        refine rb_bipush C dL_paid_59 (v := 7) (by decide) ?_
        refine rq_iand C (z := ((W (14, 7, 0) k) &&& (7 : Int32))) dL_paid_61 rfl ?_
        refine rb_iload_n C dL_paid_62 rfl ?_
        refine rb_icmp_ne C 80 dL_paid_63 (by decide) (fun h63 => ?_) (fun h63 => ?_)
        · refine rb_iconst C dL_paid_80 (v := 0) (by decide) ?_
          refine rq_iadd C (z := (fo (py_m W (nI s) (nI (t / 43200))) (k + 1) 0)) dL_paid_81 (by rw [fo_s]; unfold py_m; rw [if_neg (fun q => h63 q.1)]) ?_
          refine rb_istore C dL_paid_82 (Nat.le_of_ble_eq_true rfl) rfl (Lv' := [_, _, _, _, _, _, _, _]) rfl ?_
          refine rq_iinc C dL_paid_84 rfl (v := (nI (k + 1))) (nI_1 k) rfl (Lv' := [_, _, _, _, _, _, _, _]) rfl ?_
          refine rb_goto C 6 dL_paid_87 (by decide) ?_
          refine rb_W.unset 7 ?_
          exact ih (k + 1) (by omega)
        · refine rb_iload C dL_paid_66 rfl ?_
          refine rb_if_eq C 80 dL_paid_68 (by decide) (fun _ => ?_) (fun h9 => absurd (by decide) h9)
          refine rb_iconst C dL_paid_80 (v := 0) (by decide) ?_
          refine rq_iadd C (z := (fo (py_m W (nI s) (nI (t / 43200))) (k + 1) 0)) dL_paid_81 (by rw [fo_s]; unfold py_m; rw [if_neg (fun q => absurd q.2.1 (Int32.not_lt.mpr h26))]) ?_
          refine rb_istore C dL_paid_82 (Nat.le_of_ble_eq_true rfl) rfl (Lv' := [_, _, _, _, _, _, _, _]) rfl ?_
          refine rq_iinc C dL_paid_84 rfl (v := (nI (k + 1))) (nI_1 k) rfl (Lv' := [_, _, _, _, _, _, _, _]) rfl ?_
          refine rb_goto C 6 dL_paid_87 (by decide) ?_
          refine rb_W.unset 7 ?_
          exact ih (k + 1) (by omega)
      · refine rb_aload_n C dL_paid_29 rfl ?_
        refine rb_iload C dL_paid_30 rfl ?_
        refine rw_iald C (x := (W (14, 8, 0) k)) 60 (k) dL_paid_32 rfl (hm 8 (by decide)) (vp_in_nI (show k < 60 by omega) (by decide)) (nI_clamp (show k < 2 ^ 31 by omega)) (rfl) ?_
        refine rb_ldc C dL_paid_33 N_L_105 ?_
        refine rq_idiv C (z := ((W (14, 8, 0) k) / 43200)) dL_paid_35 (by decide) rfl ?_
        refine rb_aload C dL_paid_36 rfl ?_
        refine rb_iconst C dL_paid_38 (v := 0) (by decide) ?_
        refine rw_iald C (x := (nI t)) 44 (0) dL_paid_39 rfl (hm 0 (by decide)) (show ¬ (((0 : Int32)) < 0 ∨ 44 ≤ (0 : Int32).toNatClampNeg) by decide) rfl ((lr_g0 hl)) ?_
        refine rb_ldc C dL_paid_40 N_L_105 ?_
        refine rq_idiv C (z := (nI (t / 43200))) dL_paid_42 (by decide) (pk_div (by omega) (by decide) (by decide)) ?_
        refine rb_icmp_ne C 50 dL_paid_43 (by decide) (fun h43 => ?_) (fun h43 => ?_)
        · refine rb_iconst C dL_paid_50 (v := 0) (by decide) ?_
          refine rb_istore C dL_paid_51 (Nat.le_of_ble_eq_true rfl) rfl (Lv' := [_, _, _, _, _, _, _, _]) rfl ?_
          refine rb_iload C dL_paid_53 rfl ?_
          refine rb_aload_n C dL_paid_55 rfl ?_
          refine rb_iload C dL_paid_56 rfl ?_
          refine rw_iald C (x := (W (14, 7, 0) k)) 60 (k) dL_paid_58 rfl (hm 7 (by decide)) (vp_in_nI (show k < 60 by omega) (by decide)) (nI_clamp (show k < 2 ^ 31 by omega)) (rfl) ?_
          refine rb_bipush C dL_paid_59 (v := 7) (by decide) ?_
          refine rq_iand C (z := ((W (14, 7, 0) k) &&& (7 : Int32))) dL_paid_61 rfl ?_
          refine rb_iload_n C dL_paid_62 rfl ?_
          refine rb_icmp_ne C 80 dL_paid_63 (by decide) (fun h63 => ?_) (fun h63 => ?_)
          · refine rb_iconst C dL_paid_80 (v := 0) (by decide) ?_
            refine rq_iadd C (z := (fo (py_m W (nI s) (nI (t / 43200))) (k + 1) 0)) dL_paid_81 (by rw [fo_s]; unfold py_m; rw [if_neg (fun q => h63 q.1)]) ?_
            refine rb_istore C dL_paid_82 (Nat.le_of_ble_eq_true rfl) rfl (Lv' := [_, _, _, _, _, _, _, _]) rfl ?_
            refine rq_iinc C dL_paid_84 rfl (v := (nI (k + 1))) (nI_1 k) rfl (Lv' := [_, _, _, _, _, _, _, _]) rfl ?_
            refine rb_goto C 6 dL_paid_87 (by decide) ?_
            refine rb_W.unset 7 ?_
            exact ih (k + 1) (by omega)
          · refine rb_iload C dL_paid_66 rfl ?_
            refine rb_if_eq C 80 dL_paid_68 (by decide) (fun _ => ?_) (fun h9 => absurd (by decide) h9)
            refine rb_iconst C dL_paid_80 (v := 0) (by decide) ?_
            refine rq_iadd C (z := (fo (py_m W (nI s) (nI (t / 43200))) (k + 1) 0)) dL_paid_81 (by rw [fo_s]; unfold py_m; rw [if_neg (fun q => h43 q.2.2)]) ?_
            refine rb_istore C dL_paid_82 (Nat.le_of_ble_eq_true rfl) rfl (Lv' := [_, _, _, _, _, _, _, _]) rfl ?_
            refine rq_iinc C dL_paid_84 rfl (v := (nI (k + 1))) (nI_1 k) rfl (Lv' := [_, _, _, _, _, _, _, _]) rfl ?_
            refine rb_goto C 6 dL_paid_87 (by decide) ?_
            refine rb_W.unset 7 ?_
            exact ih (k + 1) (by omega)
        · refine rb_iconst C dL_paid_46 (v := 1) (by decide) ?_
          refine rb_goto C 51 dL_paid_47 (by decide) ?_
          refine rb_istore C dL_paid_51 (Nat.le_of_ble_eq_true rfl) rfl (Lv' := [_, _, _, _, _, _, _, _]) rfl ?_
          refine rb_iload C dL_paid_53 rfl ?_
          refine rb_aload_n C dL_paid_55 rfl ?_
          refine rb_iload C dL_paid_56 rfl ?_
          refine rw_iald C (x := (W (14, 7, 0) k)) 60 (k) dL_paid_58 rfl (hm 7 (by decide)) (vp_in_nI (show k < 60 by omega) (by decide)) (nI_clamp (show k < 2 ^ 31 by omega)) (rfl) ?_
          refine rb_bipush C dL_paid_59 (v := 7) (by decide) ?_
          refine rq_iand C (z := ((W (14, 7, 0) k) &&& (7 : Int32))) dL_paid_61 rfl ?_
          refine rb_iload_n C dL_paid_62 rfl ?_
          refine rb_icmp_ne C 80 dL_paid_63 (by decide) (fun h63 => ?_) (fun h63 => ?_)
          · refine rb_iconst C dL_paid_80 (v := 0) (by decide) ?_
            refine rq_iadd C (z := (fo (py_m W (nI s) (nI (t / 43200))) (k + 1) 0)) dL_paid_81 (by rw [fo_s]; unfold py_m; rw [if_neg (fun q => h63 q.1)]) ?_
            refine rb_istore C dL_paid_82 (Nat.le_of_ble_eq_true rfl) rfl (Lv' := [_, _, _, _, _, _, _, _]) rfl ?_
            refine rq_iinc C dL_paid_84 rfl (v := (nI (k + 1))) (nI_1 k) rfl (Lv' := [_, _, _, _, _, _, _, _]) rfl ?_
            refine rb_goto C 6 dL_paid_87 (by decide) ?_
            refine rb_W.unset 7 ?_
            exact ih (k + 1) (by omega)
          · refine rb_iload C dL_paid_66 rfl ?_
            refine rb_if_eq C 80 dL_paid_68 (by decide) (fun h9 => absurd h9 (by decide)) (fun _ => ?_)
            refine rb_aload_n C dL_paid_71 rfl ?_
            refine rb_iload C dL_paid_72 rfl ?_
            refine rw_iald C (x := (W (14, 7, 0) k)) 60 (k) dL_paid_74 rfl (hm 7 (by decide)) (vp_in_nI (show k < 60 by omega) (by decide)) (nI_clamp (show k < 2 ^ 31 by omega)) (rfl) ?_
            refine rb_iconst C dL_paid_75 (v := 4) (by decide) ?_
            refine rq_ishr C (z := ((W (14, 7, 0) k) >>> ((4 : Int32) &&& 31))) dL_paid_76 rfl ?_
            refine rb_goto C 81 dL_paid_77 (by decide) ?_
            refine rq_iadd C (z := (fo (py_m W (nI s) (nI (t / 43200))) (k + 1) 0)) dL_paid_81 (by rw [fo_s]; unfold py_m; rw [if_pos ⟨h63, Int32.not_le.mp h26, h43⟩]) ?_
            refine rb_istore C dL_paid_82 (Nat.le_of_ble_eq_true rfl) rfl (Lv' := [_, _, _, _, _, _, _, _]) rfl ?_
            refine rq_iinc C dL_paid_84 rfl (v := (nI (k + 1))) (nI_1 k) rfl (Lv' := [_, _, _, _, _, _, _, _]) rfl ?_
            refine rb_goto C 6 dL_paid_87 (by decide) ?_
            refine rb_W.unset 7 ?_
            exact ih (k + 1) (by omega)
  have h0 := loop6 P 0 (by omega)
  rw [fo_0, nI_0] at h0
  exact h0

theorem moz_eq {M : rb_I} {k vi ho st vi1 ho1 st1 mi : Nat} (hk : k < 1000) (b1 : vi < 1000) (b2 : ho < 1000) (b3 : st < 1000) (b4 : vi1 < 1000) (b5 : ho1 < 1000) (b6 : st1 < 1000) (m31 : M (14, 31, 0) k = nI vi1) (m30 : M (14, 30, 0) k = nI ho1) (m35 : M (14, 35, 0) k = nI st1) (m32 : M (14, 32, 0) k = nI mi) (s : Int32) : m_minutesOf_b M (nI vi) (nI ho) (nI st) k s = if vi1 = vi ∧ ho1 = ho ∧ st1 = st then s + nI mi else s + 0 := by
  unfold m_minutesOf_b m_isOf
  rw [nI_clamp (show k < 2 ^ 31 by omega), m31, m30, m35, m32]
  simp only [nI_eq (show vi1 < 2 ^ 31 by omega) (show vi < 2 ^ 31 by omega), nI_eq (show ho1 < 2 ^ 31 by omega) (show ho < 2 ^ 31 by omega), nI_eq (show st1 < 2 ^ 31 by omega) (show st < 2 ^ 31 by omega)]
  by_cases e1 : vi1 = vi
  · by_cases e2 : ho1 = ho
    · by_cases e3 : st1 = st
      · simp [e1, e2, e3]
      · simp [e1, e2, e3]
    · simp [e1, e2]
  · simp [e1]
set_option maxRecDepth 100000 in
set_option maxHeartbeats 4000000 in
theorem k_L_minutes (l : Launch) (X : rb_X) (G : rb_G) (W M : rb_I) (hm : MS G) {S A R P t d : Nat} (hl : lx W M S A R P t d) (vi ho st : Nat) (hvi : vi < 6) (hho : ho < 6) (hst : st < 4) : rb_N l X yL_minutes (.code yL_minutes cL_minutes 7 (some .int)) 1 12 0 0 [rbI (nI (vi + 8 * ho)), rbI (nI st), rbR (14, 4, 0), rbR (14, 5, 0), rbR (14, 0, 0)] (wI G W) (fun v9 G9 => v9 = some (rbI (m_minutesOf M (nI vi) (nI ho) (nI st))) ∧ G9 = wI G W) := by
  refine rb_startN RL rfl (by decide +kernel) rfl (Nat.le_of_ble_eq_true rfl) ?_
  intro Φ C E nm
  show rb_W Φ 0 0 0 [some (rbI (nI (vi + 8 * ho))), some (rbI (nI st)), some (rbR (14, 4, 0)), some (rbR (14, 5, 0)), some (rbR (14, 0, 0)), none, none] [] (wI G W)
  obtain ⟨hS6, hA10, hRP, hP58, -, hd64, htm⟩ := lr_b hl
  refine rb_iconst C dL_minutes_0 (v := 0) (by decide) ?_
  refine rb_istore C dL_minutes_1 (Nat.le_of_ble_eq_true rfl) rfl (Lv' := [_, _, _, _, _, _, _]) rfl ?_
  refine rb_iconst C dL_minutes_3 (v := 0) (by decide) ?_
  refine rb_istore C dL_minutes_4 (Nat.le_of_ble_eq_true rfl) rfl (Lv' := [_, _, _, _, _, _, _]) rfl ?_
  have loop6 : ∀ (dd : Nat) (k : Nat), k + dd = R → rb_W Φ 0 0 6 [some (rbI (nI (vi + 8 * ho))), some (rbI (nI st)), some (rbR (14, 4, 0)), some (rbR (14, 5, 0)), some (rbR (14, 0, 0)), some (rbI (fo (m_minutesOf_b M (nI vi) (nI ho) (nI st)) k 0)), some (rbI (nI k))] [] (wI G W) := by
    intro dd
    induction dd with
    | zero =>
      intro k hk
      refine rb_iload C dL_minutes_6 rfl ?_
      refine rb_aload C dL_minutes_8 rfl ?_
      refine rb_iconst C dL_minutes_10 (v := 3) (by decide) ?_
      refine rw_iald C (x := (nI R)) 44 (3) dL_minutes_11 rfl (hm 0 (by decide)) (show ¬ (((3 : Int32)) < 0 ∨ 44 ≤ (3 : Int32).toNatClampNeg) by decide) rfl ((lr_g3 hl)) ?_
      refine rb_icmp_ge C 58 dL_minutes_12 (by decide) (fun _ => ?_) (fun h9 => absurd ((nI_le (a := R) (b := k) (by omega) (by omega))) h9)
      refine rb_iload C dL_minutes_58 rfl ?_
      exact rb_iret C E dL_minutes_60 (Nat.le_of_ble_eq_true rfl) (Nat.le_of_ble_eq_true rfl) (⟨by unfold m_minutesOf; rw [lm_R hl, nI_clamp (by omega), show k = R by omega], rfl⟩)
    | succ dd ih =>
      intro k hk
      obtain ⟨vi1, ho1, st1, fl, by1, e, mi, ⟨b1, b2, b3, b4, b5, b6, b7, b8⟩, ⟨rr, rm, rt⟩, ⟨m31, m30, m35, m36, m34, m33, m32⟩⟩ := hl.2.2.2.2.2.2.2.1 k (by omega)
      have hmo := fun s => moz_eq (show k < 1000 by omega) (show vi < 1000 by omega) (show ho < 1000 by omega) (show st < 1000 by omega) (show vi1 < 1000 by omega) (show ho1 < 1000 by omega) (show st1 < 1000 by omega) m31 m30 m35 m32 s
      refine rb_iload C dL_minutes_6 rfl ?_
      refine rb_aload C dL_minutes_8 rfl ?_
      refine rb_iconst C dL_minutes_10 (v := 3) (by decide) ?_
      refine rw_iald C (x := (nI R)) 44 (3) dL_minutes_11 rfl (hm 0 (by decide)) (show ¬ (((3 : Int32)) < 0 ∨ 44 ≤ (3 : Int32).toNatClampNeg) by decide) rfl ((lr_g3 hl)) ?_
      refine rb_icmp_ge C 58 dL_minutes_12 (by decide) (fun h9 => absurd h9 ((nI_ge (a := k) (b := R) (by omega) (by omega)))) (fun _ => ?_)
      refine rb_iload C dL_minutes_15 rfl ?_
      refine rb_aload_n C dL_minutes_17 rfl ?_
      refine rb_iload C dL_minutes_18 rfl ?_
      refine rw_iald C (x := (nI (vi1 + 8 * ho1 + 64 * st1 + 256 * fl + 8192 * by1))) 60 (k) dL_minutes_20 rfl (hm 4 (by decide)) (vp_in_nI (show k < 60 by omega) (by decide)) (nI_clamp (show k < 2 ^ 31 by omega)) (rr) ?_
      refine rb_bipush C dL_minutes_21 (v := 63) (by decide) ?_
      refine rq_iand C (z := (nI ((vi1 + 8 * ho1 + 64 * st1 + 256 * fl + 8192 * by1) % 2 ^ 6))) dL_minutes_23 (bs_and (by omega) 6 rfl) ?_
      refine rb_iload_n C dL_minutes_24 rfl ?_
      refine rb_icmp_ne C 48 dL_minutes_25 (by decide) (fun h25 => ?_) (fun h25 => ?_)
      · replace h25 := mt (nI_eq (a := (vi1 + 8 * ho1 + 64 * st1 + 256 * fl + 8192 * by1) % 2 ^ 6) (b := vi + 8 * ho) (by omega) (by omega)).mpr h25
        refine rb_iconst C dL_minutes_48 (v := 0) (by decide) ?_
        refine rq_iadd C (z := (fo (m_minutesOf_b M (nI vi) (nI ho) (nI st)) (k + 1) 0)) dL_minutes_49 (by rw [fo_s, hmo, if_neg (by omega)]) ?_
        refine rb_istore C dL_minutes_50 (Nat.le_of_ble_eq_true rfl) rfl (Lv' := [_, _, _, _, _, _, _]) rfl ?_
        refine rq_iinc C dL_minutes_52 rfl (v := (nI (k + 1))) (nI_1 k) rfl (Lv' := [_, _, _, _, _, _, _]) rfl ?_
        refine rb_goto C 6 dL_minutes_55 (by decide) ?_
        exact ih (k + 1) (by omega)
      · replace h25 := (nI_eq (a := (vi1 + 8 * ho1 + 64 * st1 + 256 * fl + 8192 * by1) % 2 ^ 6) (b := vi + 8 * ho) (by omega) (by omega)).mp h25
        refine rb_aload_n C dL_minutes_28 rfl ?_
        refine rb_iload C dL_minutes_29 rfl ?_
        refine rw_iald C (x := (nI (vi1 + 8 * ho1 + 64 * st1 + 256 * fl + 8192 * by1))) 60 (k) dL_minutes_31 rfl (hm 4 (by decide)) (vp_in_nI (show k < 60 by omega) (by decide)) (nI_clamp (show k < 2 ^ 31 by omega)) (rr) ?_
        refine rb_bipush C dL_minutes_32 (v := 6) (by decide) ?_
        refine rq_ishr C (z := (nI ((vi1 + 8 * ho1 + 64 * st1 + 256 * fl + 8192 * by1) / 2 ^ 6))) dL_minutes_34 (bs_shr (by omega) (by decide)) ?_
        refine rb_iconst C dL_minutes_35 (v := 3) (by decide) ?_
        refine rq_iand C (z := (nI (((vi1 + 8 * ho1 + 64 * st1 + 256 * fl + 8192 * by1) / 2 ^ 6) % 2 ^ 2))) dL_minutes_36 (bs_and (by omega) 2 rfl) ?_
        refine rb_iload_n C dL_minutes_37 rfl ?_
        refine rb_icmp_ne C 48 dL_minutes_38 (by decide) (fun h38 => ?_) (fun h38 => ?_)
        · replace h38 := mt (nI_eq (a := ((vi1 + 8 * ho1 + 64 * st1 + 256 * fl + 8192 * by1) / 2 ^ 6) % 2 ^ 2) (b := st) (by omega) (by omega)).mpr h38
          refine rb_iconst C dL_minutes_48 (v := 0) (by decide) ?_
          refine rq_iadd C (z := (fo (m_minutesOf_b M (nI vi) (nI ho) (nI st)) (k + 1) 0)) dL_minutes_49 (by rw [fo_s, hmo, if_neg (by omega)]) ?_
          refine rb_istore C dL_minutes_50 (Nat.le_of_ble_eq_true rfl) rfl (Lv' := [_, _, _, _, _, _, _]) rfl ?_
          refine rq_iinc C dL_minutes_52 rfl (v := (nI (k + 1))) (nI_1 k) rfl (Lv' := [_, _, _, _, _, _, _]) rfl ?_
          refine rb_goto C 6 dL_minutes_55 (by decide) ?_
          exact ih (k + 1) (by omega)
        · replace h38 := (nI_eq (a := ((vi1 + 8 * ho1 + 64 * st1 + 256 * fl + 8192 * by1) / 2 ^ 6) % 2 ^ 2) (b := st) (by omega) (by omega)).mp h38
          refine rb_aload_n C dL_minutes_41 rfl ?_
          refine rb_iload C dL_minutes_42 rfl ?_
          refine rw_iald C (x := (nI mi)) 60 (k) dL_minutes_44 rfl (hm 5 (by decide)) (vp_in_nI (show k < 60 by omega) (by decide)) (nI_clamp (show k < 2 ^ 31 by omega)) (rm) ?_
          refine rb_goto C 49 dL_minutes_45 (by decide) ?_
          refine rq_iadd C (z := (fo (m_minutesOf_b M (nI vi) (nI ho) (nI st)) (k + 1) 0)) dL_minutes_49 (by rw [fo_s, hmo, if_pos (by omega)]) ?_
          refine rb_istore C dL_minutes_50 (Nat.le_of_ble_eq_true rfl) rfl (Lv' := [_, _, _, _, _, _, _]) rfl ?_
          refine rq_iinc C dL_minutes_52 rfl (v := (nI (k + 1))) (nI_1 k) rfl (Lv' := [_, _, _, _, _, _, _]) rfl ?_
          refine rb_goto C 6 dL_minutes_55 (by decide) ?_
          exact ih (k + 1) (by omega)
  have h0 := loop6 R 0 (by omega)
  rw [fo_0, nI_0] at h0
  exact h0

