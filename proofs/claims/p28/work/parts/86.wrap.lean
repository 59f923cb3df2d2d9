/-! the law's own methods: what each answers, by the class's pure function -/
theorem xc_0 (E : String) : xc E ≠ 0 := by
  unfold xc
  (repeat' split) <;> decide
theorem xc_i1 {E : String} (h : xc E = 1) : E = "java/lang/IndexOutOfBoundsException" := by
  unfold xc at h
  split at h
  · assumption
  · split at h
    · exact absurd h (by decide)
    · split at h <;> exact absurd h (by decide)
theorem xc_i2 {E : String} (h : xc E = 2) : E = "java/lang/IllegalArgumentException" := by
  unfold xc at h
  split at h
  · exact absurd h (by decide)
  · split at h
    · assumption
    · split at h <;> exact absurd h (by decide)
theorem xc_i3 {E : String} (h : xc E = 3) : E = "java/lang/IllegalStateException" := by
  unfold xc at h
  split at h
  · exact absurd h (by decide)
  · split at h
    · exact absurd h (by decide)
    · split at h
      · assumption
      · exact absurd h (by decide)
theorem em_1 (W : rb_I) (u : Int32) : ∀ d i, (x7_em_b W u d i).1 = 0 := by
  intro d
  induction d with
  | zero => intro i; rfl
  | succ d ih =>
    intro i
    unfold x7_em_b
    split
    · exact ih _
    · split
      · rfl
      · exact ih _
theorem ag_1 (W : rb_I) (u : Int32) : ∀ d i, (x7_ag_b W u d i).1 = 0 := by
  intro d
  induction d with
  | zero => intro i; unfold x7_ag_b; (repeat' split) <;> rfl
  | succ d ih =>
    intro i
    unfold x7_ag_b
    (repeat' split) <;> first | rfl | exact ih _
def lc (a : rb_U) : Int32 := if a.1 = 0 then a.2.1 else if a.1 = 1 then -7100 else if a.1 = 2 then -7200 else -7300
def lcz (a : rb_U) : Int32 := if a.1 = 0 then (if a.2.1 = 0 then 0 else 1) else if a.1 = 1 then -7100 else if a.1 = 2 then -7200 else -7300
def lcv (a : rb_U) : Int32 := if a.1 = 0 then 0 else if a.1 = 1 then -7100 else if a.1 = 2 then -7200 else -7300
theorem lc_0 {a : rb_U} (h : a.1 = 0) : lc a = a.2.1 := if_pos h
theorem lcv_0 {a : rb_U} (h : a.1 = 0) : lcv a = 0 := if_pos h
theorem lcz_0t {a : rb_U} (h : a.1 = 0) (hz : a.2.1 = 0) : lcz a = 0 := by unfold lcz; rw [if_pos h, if_pos hz]
theorem lcz_0f {a : rb_U} (h : a.1 = 0) (hz : ¬ a.2.1 = 0) : lcz a = 1 := by unfold lcz; rw [if_pos h, if_neg hz]
theorem lc_1 {a : rb_U} (h : a.1 = 1) : lc a = -7100 := by unfold lc; rw [h]; rfl
theorem lc_2 {a : rb_U} (h : a.1 = 2) : lc a = -7200 := by unfold lc; rw [h]; rfl
theorem lc_3 {a : rb_U} (h : a.1 = 3) : lc a = -7300 := by unfold lc; rw [h]; rfl
theorem lcz_1 {a : rb_U} (h : a.1 = 1) : lcz a = -7100 := by unfold lcz; rw [h]; rfl
theorem lcz_2 {a : rb_U} (h : a.1 = 2) : lcz a = -7200 := by unfold lcz; rw [h]; rfl
theorem lcz_3 {a : rb_U} (h : a.1 = 3) : lcz a = -7300 := by unfold lcz; rw [h]; rfl
theorem lcv_1 {a : rb_U} (h : a.1 = 1) : lcv a = -7100 := by unfold lcv; rw [h]; rfl
theorem lcv_2 {a : rb_U} (h : a.1 = 2) : lcv a = -7200 := by unfold lcv; rw [h]; rfl
theorem lcv_3 {a : rb_U} (h : a.1 = 3) : lcv a = -7300 := by unfold lcv; rw [h]; rfl
section
variable {Φ : rb_F} {own : String} {cc : ByteArray} {nL fr lo mc ms cells slots pc : Nat} {Lv Lv' : List (Option rb_V)} {st rest As : List rb_V} {G : rb_G}
theorem rb_catch7 (C : rb_C Φ own cc nL fr lo mc ms) {hh : List (Nat × Nat × Nat × Nat)} (T : rb_T Φ hh) {Post : Option rb_V → rb_G → Prop} (hE : rb_E Φ (some .int) Post mc ms) {E : String} (pre : List ExceptionTableEntry) (x : ExceptionTableEntry) (suf : List ExceptionTableEntry) (hsplit : tableOf hh = pre ++ x :: suf)
    (hpass : ∀ z ∈ pre, z.catchType ≠ 0 ∧ ∃ nm : String, Cond.classLink own z.catchType nm ∈ TS ∧ (E, nm) ∈ rb_ncs) (hx : covers x pc = true) (h0 : x.catchType ≠ 0) (hlk : Cond.classLink own x.catchType E ∈ TS) (hce : (E, E) ∈ rb_cst) {i pc1 pc2 : Nat} {n : Int} {v : Int32}
    (da : (decode cc x.handlerPc = .ok (.astore i, 2) ∧ pc1 = x.handlerPc + 2) ∨ (decode cc x.handlerPc = .ok (.astore_n 3, 1) ∧ i = 3 ∧ pc1 = x.handlerPc + 1)) (di : decode cc pc1 = .ok (.sipush n, 3)) (hp2 : pc2 = pc1 + 3) (dr : decode cc pc2 = .ok (.ireturn, 1)) (hv0 : (Int16.ofInt n).toInt32 = v) (hi : i < Lv.length) (hc : cells ≤ mc) (hs : slots ≤ ms) (hp : Post (some (rbI v)) G) : rb_Wx Φ cells slots pc Lv st G E := by
  obtain ⟨p, l, e, R, s, m, args, below, meth, c, Q, X, A, ad0, G0⟩ := Φ
  intro ad H locs ls q ce hP hn hS hl ho hv h1 h2 h3
  have hK1 := C.2.2.2.2.2.2.2.2.1
  have hlk9 : meth.locks = false := C.2.2.2.2.2.1
  have hend : ∀ ls', W p l e R s m args below meth c H locs cells slots Q (F0 m pc1 ls' []) := by
    intro ls'
    refine lv_sipush C.1 C.2.1 di hv0 ?_
    rw [hp2] at dr
    exact W.widen hc hs (hE.2 H locs _ (W.iret C.1 C.2.1 hE.1 (fun t ht hW => ⟨⟨some (rbI v), G, ad, rfl, hp, hn, (fun w h => by cases h; exact rb_ok_i _ _), by rw [ht]; exact hP⟩, hS.F ht⟩) hS.2.2 dr hlk9))
  refine vx_catch (name := E) C.2.2.2.1 pre x suf (T.trans hsplit) (fun z hz => Or.inr ?_) hx h0 (C.2.2.2.2.1 _ hlk) (va_Nw.use rfl (hK1.2.2.1 _ hce)) h1 h2 h3 ?_
  · obtain ⟨z0, nm, z1, z2⟩ := hpass z hz
    exact ⟨z0, nm, C.2.2.2.2.1 _ z1, hK1.2.2.2.1 _ z2⟩
  · rcases da with ⟨da, e1⟩ | ⟨da, e0, e1⟩
    · rw [e1] at hend
      exact lv_astore C.1 C.2.1 da hl hi rfl (fun ls' _ => hend ls')
    · rw [e1] at hend
      exact lv_astore_n C.1 C.2.1 da rfl hl (by rw [e0] at hi; exact hi) rfl (fun ls' _ => hend ls')
end
/-- a contract that says less -/
theorem rb_N.imp {l : Launch} {X : rb_X} {y : MethodName} {w : Cond} {fr lo mc ms : Nat} {av : List rb_V} {G : rb_G} {Post Post' : Option rb_V → rb_G → Prop} (h : rb_N l X y w fr lo mc ms av G Post) (hi : ∀ v G', Post v G' → Post' v G') : rb_N l X y w fr lo mc ms av G Post' := by
  intro hl A ad p e h1 h2 h3 s m args below h4 h5 h6 h7
  obtain ⟨n, o, g1, g2, g3, ⟨⟨v, G', ad', q1, q2, q3⟩, g4⟩, g5⟩ := h hl A ad p e h1 h2 h3 s m args below h4 h5 h6 h7
  exact ⟨n, o, g1, g2, g3, ⟨⟨v, G', ad', q1, hi v G' q2, q3⟩, g4⟩, g5⟩
theorem cd_reach (W : rb_I) (cn : Nat → Nat) (p ns : Int32) : (x7_reach W cn p ns).1 = 0 ∨ (x7_reach W cn p ns).1 = 1 ∨ (x7_reach W cn p ns).1 = 2 := by
  unfold x7_reach
  (repeat' split) <;> first | exact Or.inl rfl | exact Or.inr (Or.inl rfl) | exact Or.inr (Or.inr (rfl))
set_option maxRecDepth 100000 in
set_option maxHeartbeats 4000000 in
theorem k_L_reach (l : Launch) (X : rb_X) (G : rb_G) (W : rb_I) (cn : Nat → Nat) (ag : Nat → Nat → Int32) (hG : xCS G cn ag) (p ns : Int32) (hI : xCI W cn) : rb_N l X yL_reach (.codeWith yL_reach cL_reach 5 (some .int) [(0, 7, 10, 14), (0, 7, 16, 16)]) 9 157 12 72 [rbR (0, 0, 0), rbI p, rbI ns] (wI G W) (fun v9 G9 => v9 = some (rbI (lc (x7_reach W cn p ns))) ∧ G9 = wI G (x7_reach W cn p ns).2.2) := by
  refine rb_startW RL rfl (by decide +kernel) rfl (Nat.le_of_ble_eq_true rfl) ?_
  intro Φ C E T
  show rb_W Φ 0 0 0 [some (rbR (0, 0, 0)), some (rbI p), some (rbI ns), none, none] [] (wI G W)
  refine rb_aload_n C dL_reach_0 rfl ?_
  refine rb_iload_n C dL_reach_1 rfl ?_
  refine rb_iload_n C dL_reach_2 rfl ?_
  refine rb_callV C M_L_8 (fun l X => k_X7_reach l X G W cn ag hG p ns hI) rfl (Nat.le_of_ble_eq_true rfl) rfl dL_reach_3 rfl rfl rfl (Nat.le_of_ble_eq_true rfl) ⟨(Nat.le_of_ble_eq_true rfl), (Nat.le_of_ble_eq_true rfl)⟩ (Nat.le_of_ble_eq_true rfl) (Nat.le_of_ble_eq_true rfl) (fun v G' hp => ?_) (fun E9 G' hp => ?_)
  · obtain ⟨hf0, hv, e9⟩ := hp
    subst hv
    rw [e9]
    clear e9 G'
    refine rb_istore_n C dL_reach_6 (Nat.le_of_ble_eq_true rfl) rfl (Lv' := [_, _, _, _, _]) rfl ?_
    refine rb_goto C 22 dL_reach_7 (by decide) ?_
    refine rb_iload_n C dL_reach_22 rfl ?_
    exact rb_iret C E dL_reach_23 (Nat.le_of_ble_eq_true rfl) (Nat.le_of_ble_eq_true rfl) (⟨by rw [lc_0 hf0], rfl⟩)
  · obtain ⟨hx, e9⟩ := hp
    rw [e9]
    clear e9 G'
    rcases cd_reach W cn p ns with h9 | h9 | h9
    · exact absurd (hx.symm.trans h9) (xc_0 E9)
    · obtain rfl := xc_i1 (hx.symm.trans h9)
      exact rb_catch7 C T E [] ⟨0, 7, 10, 14⟩ [⟨0, 7, 16, 16⟩] rfl (fun z hz => by cases hz) (by decide) (by decide) L_L_14 (by decide +kernel) (i := 4) (pc1 := 12) (pc2 := 15) (n := -7100) (v := -7100) (Or.inl ⟨dL_reach_10, rfl⟩) dL_reach_12 rfl dL_reach_15 (by decide) (Nat.le_of_ble_eq_true rfl) (Nat.le_of_ble_eq_true rfl) (Nat.le_of_ble_eq_true rfl) ⟨by rw [lc_1 h9], rfl⟩
    · obtain rfl := xc_i2 (hx.symm.trans h9)
      exact rb_catch7 C T E [⟨0, 7, 10, 14⟩] ⟨0, 7, 16, 16⟩ [] rfl (fun z hz => by
        simp only [List.mem_cons, List.not_mem_nil, or_false] at hz
        subst hz
        exact ⟨by decide, _, L_L_14, by decide +kernel⟩) (by decide) (by decide) L_L_16 (by decide +kernel) (i := 4) (pc1 := 18) (pc2 := 21) (n := -7200) (v := -7200) (Or.inl ⟨dL_reach_16, rfl⟩) dL_reach_18 rfl dL_reach_21 (by decide) (Nat.le_of_ble_eq_true rfl) (Nat.le_of_ble_eq_true rfl) (Nat.le_of_ble_eq_true rfl) ⟨by rw [lc_2 h9], rfl⟩

theorem cd_dead (W : rb_I) (cn : Nat → Nat) (n is : Int32) : (x7_dead W cn n is).1 = 0 ∨ (x7_dead W cn n is).1 = 1 := by
  unfold x7_dead
  (repeat' split) <;> first | exact Or.inl rfl | exact Or.inr (rfl)
set_option maxRecDepth 100000 in
set_option maxHeartbeats 4000000 in
theorem k_L_dead (l : Launch) (X : rb_X) (G : rb_G) (W : rb_I) (cn : Nat → Nat) (ag : Nat → Nat → Int32) (hG : xCS G cn ag) (n is : Int32) (hI : xCI W cn) (his : is = 0 ∨ is = 1) : rb_N l X yL_dead (.codeWith yL_dead cL_dead 5 (some .int) [(0, 7, 10, 14)]) 9 156 12 72 [rbR (0, 0, 0), rbI n, rbI is] (wI G W) (fun v9 G9 => v9 = some (rbI (lcz (x7_dead W cn n is))) ∧ G9 = wI G (x7_dead W cn n is).2.2) := by
  refine rb_startW RL rfl (by decide +kernel) rfl (Nat.le_of_ble_eq_true rfl) ?_
  intro Φ C E T
  show rb_W Φ 0 0 0 [some (rbR (0, 0, 0)), some (rbI n), some (rbI is), none, none] [] (wI G W)
  refine rb_aload_n C dL_dead_0 rfl ?_
  refine rb_iload_n C dL_dead_1 rfl ?_
  refine rb_iload_n C dL_dead_2 rfl ?_
  refine rb_callV C M_L_18 (fun l X => k_X7_dead l X G W cn ag hG n is hI his) rfl (Nat.le_of_ble_eq_true rfl) rfl dL_dead_3 rfl rfl rfl (Nat.le_of_ble_eq_true rfl) ⟨(Nat.le_of_ble_eq_true rfl), (Nat.le_of_ble_eq_true rfl)⟩ (Nat.le_of_ble_eq_true rfl) (Nat.le_of_ble_eq_true rfl) (fun v G' hp => ?_) (fun E9 G' hp => ?_)
  · obtain ⟨hf0, hv, e9⟩ := hp
    subst hv
    rw [e9]
    clear e9 G'
    refine rb_istore_n C dL_dead_6 (Nat.le_of_ble_eq_true rfl) rfl (Lv' := [_, _, _, _, _]) rfl ?_
    refine rb_goto C 16 dL_dead_7 (by decide) ?_
    refine rb_iload_n C dL_dead_16 rfl ?_
    refine rb_if_eq C 24 dL_dead_17 (by decide) (fun hz => ?_) (fun hz => ?_)
    · refine rb_iconst C dL_dead_24 (v := 0) (by decide) ?_
      exact rb_iret C E dL_dead_25 (Nat.le_of_ble_eq_true rfl) (Nat.le_of_ble_eq_true rfl) (⟨by rw [lcz_0t hf0 hz], rfl⟩)
    · refine rb_iconst C dL_dead_20 (v := 1) (by decide) ?_
      refine rb_goto C 25 dL_dead_21 (by decide) ?_
      exact rb_iret C E dL_dead_25 (Nat.le_of_ble_eq_true rfl) (Nat.le_of_ble_eq_true rfl) (⟨by rw [lcz_0f hf0 hz], rfl⟩)
  · obtain ⟨hx, e9⟩ := hp
    rw [e9]
    clear e9 G'
    rcases cd_dead W cn n is with h9 | h9
    · exact absurd (hx.symm.trans h9) (xc_0 E9)
    · obtain rfl := xc_i1 (hx.symm.trans h9)
      exact rb_catch7 C T E [] ⟨0, 7, 10, 14⟩ [] rfl (fun z hz => by cases hz) (by decide) (by decide) L_L_14 (by decide +kernel) (i := 4) (pc1 := 12) (pc2 := 15) (n := -7100) (v := -7100) (Or.inl ⟨dL_dead_10, rfl⟩) dL_dead_12 rfl dL_dead_15 (by decide) (Nat.le_of_ble_eq_true rfl) (Nat.le_of_ble_eq_true rfl) (Nat.le_of_ble_eq_true rfl) ⟨by rw [lcz_1 h9], rfl⟩

theorem cd_agree (W : rb_I) (cn : Nat → Nat) (ho vi fr0 to0 pr th lw : Int32) : (x7_agree W cn ho vi fr0 to0 pr th lw).1 = 0 ∨ (x7_agree W cn ho vi fr0 to0 pr th lw).1 = 1 ∨ (x7_agree W cn ho vi fr0 to0 pr th lw).1 = 2 ∨ (x7_agree W cn ho vi fr0 to0 pr th lw).1 = 3 := by
  unfold x7_agree
  (repeat' split) <;> first | exact Or.inl rfl | exact Or.inr (Or.inl rfl) | exact Or.inr (Or.inr (Or.inl rfl)) | exact Or.inr (Or.inr (Or.inr (rfl)))
set_option maxRecDepth 100000 in
set_option maxHeartbeats 4000000 in
theorem k_L_agree (l : Launch) (X : rb_X) (G : rb_G) (W : rb_I) (cn : Nat → Nat) (ag : Nat → Nat → Int32) (hG : xCS G cn ag) (ho vi fr0 to0 pr th lw : Int32) (hI : xCI W cn) (hm : MS G) : rb_N l X yL_agree (.codeWith yL_agree cL_agree 10 (some .int) [(0, 17, 20, 14), (0, 17, 26, 16), (0, 17, 32, 26)]) 8 182 12 800 [rbR (0, 0, 0), rbI ho, rbI vi, rbI fr0, rbI to0, rbI pr, rbI th, rbI lw] (wI G W) (fun v9 G9 => v9 = some (rbI (lc (x7_agree W cn ho vi fr0 to0 pr th lw))) ∧ (((x7_agree W cn ho vi fr0 to0 pr th lw).1 ≠ 0 ∧ G9 = wI G (x7_agree W cn ho vi fr0 to0 pr th lw).2.2) ∨ ((x7_agree W cn ho vi fr0 to0 pr th lw).1 = 0 ∧ ∃ G1 W1, G9 = wI G1 W1 ∧ xq W1 (x7_agree W cn ho vi fr0 to0 pr th lw).2.2 ∧ MK G G1 ∧ xCS G1 (bump cn 0) ag))) := by
  refine rb_startW RL rfl (by decide +kernel) rfl (Nat.le_of_ble_eq_true rfl) ?_
  intro Φ C E T
  show rb_W Φ 0 0 0 [some (rbR (0, 0, 0)), some (rbI ho), some (rbI vi), some (rbI fr0), some (rbI to0), some (rbI pr), some (rbI th), some (rbI lw), none, none] [] (wI G W)
  refine rb_aload_n C dL_agree_0 rfl ?_
  refine rb_iload_n C dL_agree_1 rfl ?_
  refine rb_iload_n C dL_agree_2 rfl ?_
  refine rb_iload_n C dL_agree_3 rfl ?_
  refine rb_iload C dL_agree_4 rfl ?_
  refine rb_iload C dL_agree_6 rfl ?_
  refine rb_iload C dL_agree_8 rfl ?_
  refine rb_iload C dL_agree_10 rfl ?_
  refine rb_callV C M_L_22 (fun l X => k_X7_agree l X G W cn ag hG ho vi fr0 to0 pr th lw hI hm) rfl (Nat.le_of_ble_eq_true rfl) rfl dL_agree_12 rfl rfl rfl (Nat.le_of_ble_eq_true rfl) ⟨(Nat.le_of_ble_eq_true rfl), (Nat.le_of_ble_eq_true rfl)⟩ (Nat.le_of_ble_eq_true rfl) (Nat.le_of_ble_eq_true rfl) (fun v G' hp => ?_) (fun E9 G' hp => ?_)
  · obtain ⟨hf0, hv, G1, W1, e9, hq, hK, hC1⟩ := hp
    subst hv
    rw [e9]
    clear e9 G'
    refine rb_istore C dL_agree_15 (Nat.le_of_ble_eq_true rfl) rfl (Lv' := [_, _, _, _, _, _, _, _, _, _]) rfl ?_
    refine rb_goto C 38 dL_agree_17 (by decide) ?_
    refine rb_iload C dL_agree_38 rfl ?_
    exact rb_iret C E dL_agree_40 (Nat.le_of_ble_eq_true rfl) (Nat.le_of_ble_eq_true rfl) (⟨by rw [lc_0 hf0], Or.inr ⟨hf0, G1, W1, rfl, hq, hK, hC1⟩⟩)
  · obtain ⟨hx, e9⟩ := hp
    rw [e9]
    clear e9 G'
    rcases cd_agree W cn ho vi fr0 to0 pr th lw with h9 | h9 | h9 | h9
    · exact absurd (hx.symm.trans h9) (xc_0 E9)
    · obtain rfl := xc_i1 (hx.symm.trans h9)
      exact rb_catch7 C T E [] ⟨0, 17, 20, 14⟩ [⟨0, 17, 26, 16⟩, ⟨0, 17, 32, 26⟩] rfl (fun z hz => by cases hz) (by decide) (by decide) L_L_14 (by decide +kernel) (i := 9) (pc1 := 22) (pc2 := 25) (n := -7100) (v := -7100) (Or.inl ⟨dL_agree_20, rfl⟩) dL_agree_22 rfl dL_agree_25 (by decide) (Nat.le_of_ble_eq_true rfl) (Nat.le_of_ble_eq_true rfl) (Nat.le_of_ble_eq_true rfl) ⟨by rw [lc_1 h9], Or.inl ⟨fun q => absurd (h9.symm.trans q) (by decide), rfl⟩⟩
    · obtain rfl := xc_i2 (hx.symm.trans h9)
      exact rb_catch7 C T E [⟨0, 17, 20, 14⟩] ⟨0, 17, 26, 16⟩ [⟨0, 17, 32, 26⟩] rfl (fun z hz => by
        simp only [List.mem_cons, List.not_mem_nil, or_false] at hz
        subst hz
        exact ⟨by decide, _, L_L_14, by decide +kernel⟩) (by decide) (by decide) L_L_16 (by decide +kernel) (i := 9) (pc1 := 28) (pc2 := 31) (n := -7200) (v := -7200) (Or.inl ⟨dL_agree_26, rfl⟩) dL_agree_28 rfl dL_agree_31 (by decide) (Nat.le_of_ble_eq_true rfl) (Nat.le_of_ble_eq_true rfl) (Nat.le_of_ble_eq_true rfl) ⟨by rw [lc_2 h9], Or.inl ⟨fun q => absurd (h9.symm.trans q) (by decide), rfl⟩⟩
    · obtain rfl := xc_i3 (hx.symm.trans h9)
      exact rb_catch7 C T E [⟨0, 17, 20, 14⟩, ⟨0, 17, 26, 16⟩] ⟨0, 17, 32, 26⟩ [] rfl (fun z hz => by
        simp only [List.mem_cons, List.not_mem_nil, or_false] at hz
        rcases hz with hz | hz
        · subst hz
          exact ⟨by decide, _, L_L_14, by decide +kernel⟩
        · subst hz
          exact ⟨by decide, _, L_L_16, by decide +kernel⟩) (by decide) (by decide) L_L_26 (by decide +kernel) (i := 9) (pc1 := 34) (pc2 := 37) (n := -7300) (v := -7300) (Or.inl ⟨dL_agree_32, rfl⟩) dL_agree_34 rfl dL_agree_37 (by decide) (Nat.le_of_ble_eq_true rfl) (Nat.le_of_ble_eq_true rfl) (Nat.le_of_ble_eq_true rfl) ⟨by rw [lc_3 h9], Or.inl ⟨fun q => absurd (h9.symm.trans q) (by decide), rfl⟩⟩

theorem cd_steer (W : rb_I) (cn : Nat → Nat) (ho n : Int32) : (x7_steer W cn ho n).1 = 0 ∨ (x7_steer W cn ho n).1 = 1 ∨ (x7_steer W cn ho n).1 = 2 := by
  unfold x7_steer
  (repeat' split) <;> first | exact Or.inl rfl | exact Or.inr (Or.inl rfl) | exact Or.inr (Or.inr (rfl))
set_option maxRecDepth 100000 in
set_option maxHeartbeats 4000000 in
theorem k_L_steer (l : Launch) (X : rb_X) (G : rb_G) (W : rb_I) (cn : Nat → Nat) (ag : Nat → Nat → Int32) (hG : xCS G cn ag) (ho n : Int32) (hI : xCI W cn) : rb_N l X yL_steer (.codeWith yL_steer cL_steer 5 (some .int) [(0, 7, 10, 14), (0, 7, 16, 16)]) 9 156 12 72 [rbR (0, 0, 0), rbI ho, rbI n] (wI G W) (fun v9 G9 => v9 = some (rbI (lc (x7_steer W cn ho n))) ∧ G9 = wI G (x7_steer W cn ho n).2.2) := by
  refine rb_startW RL rfl (by decide +kernel) rfl (Nat.le_of_ble_eq_true rfl) ?_
  intro Φ C E T
  show rb_W Φ 0 0 0 [some (rbR (0, 0, 0)), some (rbI ho), some (rbI n), none, none] [] (wI G W)
  refine rb_aload_n C dL_steer_0 rfl ?_
  refine rb_iload_n C dL_steer_1 rfl ?_
  refine rb_iload_n C dL_steer_2 rfl ?_
  refine rb_callV C M_L_28 (fun l X => k_X7_steer l X G W cn ag hG ho n hI) rfl (Nat.le_of_ble_eq_true rfl) rfl dL_steer_3 rfl rfl rfl (Nat.le_of_ble_eq_true rfl) ⟨(Nat.le_of_ble_eq_true rfl), (Nat.le_of_ble_eq_true rfl)⟩ (Nat.le_of_ble_eq_true rfl) (Nat.le_of_ble_eq_true rfl) (fun v G' hp => ?_) (fun E9 G' hp => ?_)
  · obtain ⟨hf0, hv, e9⟩ := hp
    subst hv
    rw [e9]
    clear e9 G'
    refine rb_istore_n C dL_steer_6 (Nat.le_of_ble_eq_true rfl) rfl (Lv' := [_, _, _, _, _]) rfl ?_
    refine rb_goto C 22 dL_steer_7 (by decide) ?_
    refine rb_iload_n C dL_steer_22 rfl ?_
    exact rb_iret C E dL_steer_23 (Nat.le_of_ble_eq_true rfl) (Nat.le_of_ble_eq_true rfl) (⟨by rw [lc_0 hf0], rfl⟩)
  · obtain ⟨hx, e9⟩ := hp
    rw [e9]
    clear e9 G'
    rcases cd_steer W cn ho n with h9 | h9 | h9
    · exact absurd (hx.symm.trans h9) (xc_0 E9)
    · obtain rfl := xc_i1 (hx.symm.trans h9)
      exact rb_catch7 C T E [] ⟨0, 7, 10, 14⟩ [⟨0, 7, 16, 16⟩] rfl (fun z hz => by cases hz) (by decide) (by decide) L_L_14 (by decide +kernel) (i := 4) (pc1 := 12) (pc2 := 15) (n := -7100) (v := -7100) (Or.inl ⟨dL_steer_10, rfl⟩) dL_steer_12 rfl dL_steer_15 (by decide) (Nat.le_of_ble_eq_true rfl) (Nat.le_of_ble_eq_true rfl) (Nat.le_of_ble_eq_true rfl) ⟨by rw [lc_1 h9], rfl⟩
    · obtain rfl := xc_i2 (hx.symm.trans h9)
      exact rb_catch7 C T E [⟨0, 7, 10, 14⟩] ⟨0, 7, 16, 16⟩ [] rfl (fun z hz => by
        simp only [List.mem_cons, List.not_mem_nil, or_false] at hz
        subst hz
        exact ⟨by decide, _, L_L_14, by decide +kernel⟩) (by decide) (by decide) L_L_16 (by decide +kernel) (i := 4) (pc1 := 18) (pc2 := 21) (n := -7200) (v := -7200) (Or.inl ⟨dL_steer_16, rfl⟩) dL_steer_18 rfl dL_steer_21 (by decide) (Nat.le_of_ble_eq_true rfl) (Nat.le_of_ble_eq_true rfl) (Nat.le_of_ble_eq_true rfl) ⟨by rw [lc_2 h9], rfl⟩

theorem cd_prices (W : rb_I) (cn : Nat → Nat) (ho ah ab ca : Int32) : (x7_prices W cn ho ah ab ca).1 = 0 ∨ (x7_prices W cn ho ah ab ca).1 = 1 ∨ (x7_prices W cn ho ah ab ca).1 = 2 := by
  unfold x7_prices
  (repeat' split) <;> first | exact Or.inl rfl | exact Or.inr (Or.inl rfl) | exact Or.inr (Or.inr (rfl))
set_option maxRecDepth 100000 in
set_option maxHeartbeats 4000000 in
theorem k_L_prices (l : Launch) (X : rb_X) (G : rb_G) (W : rb_I) (cn : Nat → Nat) (ag : Nat → Nat → Int32) (hG : xCS G cn ag) (ho ah ab ca : Int32) (hI : xCI W cn) : rb_N l X yL_prices (.codeWith yL_prices cL_prices 6 (some .int) [(0, 9, 12, 14), (0, 9, 18, 16)]) 9 157 12 72 [rbR (0, 0, 0), rbI ho, rbI ah, rbI ab, rbI ca] (wI G W) (fun v9 G9 => v9 = some (rbI (lcv (x7_prices W cn ho ah ab ca))) ∧ G9 = wI G (x7_prices W cn ho ah ab ca).2.2) := by
  refine rb_startW RL rfl (by decide +kernel) rfl (Nat.le_of_ble_eq_true rfl) ?_
  intro Φ C E T
  show rb_W Φ 0 0 0 [some (rbR (0, 0, 0)), some (rbI ho), some (rbI ah), some (rbI ab), some (rbI ca), none] [] (wI G W)
  refine rb_aload_n C dL_prices_0 rfl ?_
  refine rb_iload_n C dL_prices_1 rfl ?_
  refine rb_iload_n C dL_prices_2 rfl ?_
  refine rb_iload_n C dL_prices_3 rfl ?_
  refine rb_iload C dL_prices_4 rfl ?_
  refine rb_callV C M_L_31 (fun l X => k_X7_prices l X G W cn ag hG ho ah ab ca hI) rfl (Nat.le_of_ble_eq_true rfl) rfl dL_prices_6 rfl rfl rfl (Nat.le_of_ble_eq_true rfl) ⟨(Nat.le_of_ble_eq_true rfl), (Nat.le_of_ble_eq_true rfl)⟩ (Nat.le_of_ble_eq_true rfl) (Nat.le_of_ble_eq_true rfl) (fun v G' hp => ?_) (fun E9 G' hp => ?_)
  · obtain ⟨hf0, hv, e9⟩ := hp
    subst hv
    rw [e9]
    clear e9 G'
    refine rb_goto C 24 dL_prices_9 (by decide) ?_
    refine rb_iconst C dL_prices_24 (v := 0) (by decide) ?_
    exact rb_iret C E dL_prices_25 (Nat.le_of_ble_eq_true rfl) (Nat.le_of_ble_eq_true rfl) (⟨by rw [lcv_0 hf0], rfl⟩)
  · obtain ⟨hx, e9⟩ := hp
    rw [e9]
    clear e9 G'
    rcases cd_prices W cn ho ah ab ca with h9 | h9 | h9
    · exact absurd (hx.symm.trans h9) (xc_0 E9)
    · obtain rfl := xc_i1 (hx.symm.trans h9)
      exact rb_catch7 C T E [] ⟨0, 9, 12, 14⟩ [⟨0, 9, 18, 16⟩] rfl (fun z hz => by cases hz) (by decide) (by decide) L_L_14 (by decide +kernel) (i := 5) (pc1 := 14) (pc2 := 17) (n := -7100) (v := -7100) (Or.inl ⟨dL_prices_12, rfl⟩) dL_prices_14 rfl dL_prices_17 (by decide) (Nat.le_of_ble_eq_true rfl) (Nat.le_of_ble_eq_true rfl) (Nat.le_of_ble_eq_true rfl) ⟨by rw [lcv_1 h9], rfl⟩
    · obtain rfl := xc_i2 (hx.symm.trans h9)
      exact rb_catch7 C T E [⟨0, 9, 12, 14⟩] ⟨0, 9, 18, 16⟩ [] rfl (fun z hz => by
        simp only [List.mem_cons, List.not_mem_nil, or_false] at hz
        subst hz
        exact ⟨by decide, _, L_L_14, by decide +kernel⟩) (by decide) (by decide) L_L_16 (by decide +kernel) (i := 5) (pc1 := 20) (pc2 := 23) (n := -7200) (v := -7200) (Or.inl ⟨dL_prices_18, rfl⟩) dL_prices_20 rfl dL_prices_23 (by decide) (Nat.le_of_ble_eq_true rfl) (Nat.le_of_ble_eq_true rfl) (Nat.le_of_ble_eq_true rfl) ⟨by rw [lcv_2 h9], rfl⟩

theorem cd_lose (W : rb_I) (cn : Nat → Nat) (n many : Int32) : (x7_lose W cn n many).1 = 0 ∨ (x7_lose W cn n many).1 = 1 ∨ (x7_lose W cn n many).1 = 2 := by
  unfold x7_lose
  (repeat' split) <;> first | exact Or.inl rfl | exact Or.inr (Or.inl rfl) | exact Or.inr (Or.inr (rfl))
set_option maxRecDepth 100000 in
set_option maxHeartbeats 4000000 in
theorem k_L_lose (l : Launch) (X : rb_X) (G : rb_G) (W : rb_I) (cn : Nat → Nat) (ag : Nat → Nat → Int32) (hG : xCS G cn ag) (n many : Int32) (hI : xCI W cn) : rb_N l X yL_lose (.codeWith yL_lose cL_lose 5 (some .int) [(0, 7, 10, 14), (0, 7, 16, 16)]) 9 156 12 72 [rbR (0, 0, 0), rbI n, rbI many] (wI G W) (fun v9 G9 => v9 = some (rbI (lc (x7_lose W cn n many))) ∧ G9 = wI G (x7_lose W cn n many).2.2) := by
  refine rb_startW RL rfl (by decide +kernel) rfl (Nat.le_of_ble_eq_true rfl) ?_
  intro Φ C E T
  show rb_W Φ 0 0 0 [some (rbR (0, 0, 0)), some (rbI n), some (rbI many), none, none] [] (wI G W)
  refine rb_aload_n C dL_lose_0 rfl ?_
  refine rb_iload_n C dL_lose_1 rfl ?_
  refine rb_iload_n C dL_lose_2 rfl ?_
  refine rb_callV C M_L_35 (fun l X => k_X7_lose l X G W cn ag hG n many hI) rfl (Nat.le_of_ble_eq_true rfl) rfl dL_lose_3 rfl rfl rfl (Nat.le_of_ble_eq_true rfl) ⟨(Nat.le_of_ble_eq_true rfl), (Nat.le_of_ble_eq_true rfl)⟩ (Nat.le_of_ble_eq_true rfl) (Nat.le_of_ble_eq_true rfl) (fun v G' hp => ?_) (fun E9 G' hp => ?_)
  · obtain ⟨hf0, hv, e9⟩ := hp
    subst hv
    rw [e9]
    clear e9 G'
    refine rb_istore_n C dL_lose_6 (Nat.le_of_ble_eq_true rfl) rfl (Lv' := [_, _, _, _, _]) rfl ?_
    refine rb_goto C 22 dL_lose_7 (by decide) ?_
    refine rb_iload_n C dL_lose_22 rfl ?_
    exact rb_iret C E dL_lose_23 (Nat.le_of_ble_eq_true rfl) (Nat.le_of_ble_eq_true rfl) (⟨by rw [lc_0 hf0], rfl⟩)
  · obtain ⟨hx, e9⟩ := hp
    rw [e9]
    clear e9 G'
    rcases cd_lose W cn n many with h9 | h9 | h9
    · exact absurd (hx.symm.trans h9) (xc_0 E9)
    · obtain rfl := xc_i1 (hx.symm.trans h9)
      exact rb_catch7 C T E [] ⟨0, 7, 10, 14⟩ [⟨0, 7, 16, 16⟩] rfl (fun z hz => by cases hz) (by decide) (by decide) L_L_14 (by decide +kernel) (i := 4) (pc1 := 12) (pc2 := 15) (n := -7100) (v := -7100) (Or.inl ⟨dL_lose_10, rfl⟩) dL_lose_12 rfl dL_lose_15 (by decide) (Nat.le_of_ble_eq_true rfl) (Nat.le_of_ble_eq_true rfl) (Nat.le_of_ble_eq_true rfl) ⟨by rw [lc_1 h9], rfl⟩
    · obtain rfl := xc_i2 (hx.symm.trans h9)
      exact rb_catch7 C T E [⟨0, 7, 10, 14⟩] ⟨0, 7, 16, 16⟩ [] rfl (fun z hz => by
        simp only [List.mem_cons, List.not_mem_nil, or_false] at hz
        subst hz
        exact ⟨by decide, _, L_L_14, by decide +kernel⟩) (by decide) (by decide) L_L_16 (by decide +kernel) (i := 4) (pc1 := 18) (pc2 := 21) (n := -7200) (v := -7200) (Or.inl ⟨dL_lose_16, rfl⟩) dL_lose_18 rfl dL_lose_21 (by decide) (Nat.le_of_ble_eq_true rfl) (Nat.le_of_ble_eq_true rfl) (Nat.le_of_ble_eq_true rfl) ⟨by rw [lc_2 h9], rfl⟩

theorem cd_crash (W : rb_I) (cn : Nat → Nat) (n : Int32) : (x7_crash W cn n).1 = 0 ∨ (x7_crash W cn n).1 = 1 := by
  unfold x7_crash
  (repeat' split) <;> first | exact Or.inl rfl | exact Or.inr (rfl)
set_option maxRecDepth 100000 in
set_option maxHeartbeats 4000000 in
theorem k_L_crash (l : Launch) (X : rb_X) (G : rb_G) (W : rb_I) (cn : Nat → Nat) (ag : Nat → Nat → Int32) (hG : xCS G cn ag) (n : Int32) (hI : xCI W cn) : rb_N l X yL_crash (.codeWith yL_crash cL_crash 4 (some .int) [(0, 6, 9, 14)]) 9 155 12 72 [rbR (0, 0, 0), rbI n] (wI G W) (fun v9 G9 => v9 = some (rbI (lc (x7_crash W cn n))) ∧ G9 = wI G (x7_crash W cn n).2.2) := by
  refine rb_startW RL rfl (by decide +kernel) rfl (Nat.le_of_ble_eq_true rfl) ?_
  intro Φ C E T
  show rb_W Φ 0 0 0 [some (rbR (0, 0, 0)), some (rbI n), none, none] [] (wI G W)
  refine rb_aload_n C dL_crash_0 rfl ?_
  refine rb_iload_n C dL_crash_1 rfl ?_
  refine rb_callV C M_L_38 (fun l X => k_X7_crash l X G W cn ag hG n hI) rfl (Nat.le_of_ble_eq_true rfl) rfl dL_crash_2 rfl rfl rfl (Nat.le_of_ble_eq_true rfl) ⟨(Nat.le_of_ble_eq_true rfl), (Nat.le_of_ble_eq_true rfl)⟩ (Nat.le_of_ble_eq_true rfl) (Nat.le_of_ble_eq_true rfl) (fun v G' hp => ?_) (fun E9 G' hp => ?_)
  · obtain ⟨hf0, hv, e9⟩ := hp
    subst hv
    rw [e9]
    clear e9 G'
    refine rb_istore_n C dL_crash_5 (Nat.le_of_ble_eq_true rfl) rfl (Lv' := [_, _, _, _]) rfl ?_
    refine rb_goto C 14 dL_crash_6 (by decide) ?_
    refine rb_iload_n C dL_crash_14 rfl ?_
    exact rb_iret C E dL_crash_15 (Nat.le_of_ble_eq_true rfl) (Nat.le_of_ble_eq_true rfl) (⟨by rw [lc_0 hf0], rfl⟩)
  · obtain ⟨hx, e9⟩ := hp
    rw [e9]
    clear e9 G'
    rcases cd_crash W cn n with h9 | h9
    · exact absurd (hx.symm.trans h9) (xc_0 E9)
    · obtain rfl := xc_i1 (hx.symm.trans h9)
      exact rb_catch7 C T E [] ⟨0, 6, 9, 14⟩ [] rfl (fun z hz => by cases hz) (by decide) (by decide) L_L_14 (by decide +kernel) (i := 3) (pc1 := 10) (pc2 := 13) (n := -7100) (v := -7100) (Or.inr ⟨dL_crash_9, rfl, rfl⟩) dL_crash_10 rfl dL_crash_13 (by decide) (Nat.le_of_ble_eq_true rfl) (Nat.le_of_ble_eq_true rfl) (Nat.le_of_ble_eq_true rfl) ⟨by rw [lc_1 h9], rfl⟩

theorem cd_subscriber (W : rb_I) (cn : Nat → Nat) (ho pl fo0 : Int32) : (x7_subscriber W cn ho pl fo0).1 = 0 ∨ (x7_subscriber W cn ho pl fo0).1 = 1 ∨ (x7_subscriber W cn ho pl fo0).1 = 2 ∨ (x7_subscriber W cn ho pl fo0).1 = 3 := by
  unfold x7_subscriber
  (repeat' split) <;> first | exact Or.inl rfl | exact Or.inr (Or.inl rfl) | exact Or.inr (Or.inr (Or.inl rfl)) | exact Or.inr (Or.inr (Or.inr (rfl)))
set_option maxRecDepth 100000 in
set_option maxHeartbeats 4000000 in
theorem k_L_subscriber (l : Launch) (X : rb_X) (G : rb_G) (W : rb_I) (cn : Nat → Nat) (ag : Nat → Nat → Int32) (hG : xCS G cn ag) (ho pl fo0 : Int32) (hI : xCI W cn) (hm : MS G) : rb_N l X yL_subscriber (.codeWith yL_subscriber cL_subscriber 6 (some .int) [(0, 9, 12, 14), (0, 9, 18, 16), (0, 9, 24, 26)]) 8 179 12 800 [rbR (0, 0, 0), rbI ho, rbI pl, rbI fo0] (wI G W) (fun v9 G9 => v9 = some (rbI (lc (x7_subscriber W cn ho pl fo0))) ∧ (((x7_subscriber W cn ho pl fo0).1 ≠ 0 ∧ G9 = wI G (x7_subscriber W cn ho pl fo0).2.2) ∨ ((x7_subscriber W cn ho pl fo0).1 = 0 ∧ ∃ G1 W1, G9 = wI G1 W1 ∧ xq W1 (x7_subscriber W cn ho pl fo0).2.2 ∧ MK G G1 ∧ xCS G1 (bump cn 1) ag))) := by
  refine rb_startW RL rfl (by decide +kernel) rfl (Nat.le_of_ble_eq_true rfl) ?_
  intro Φ C E T
  show rb_W Φ 0 0 0 [some (rbR (0, 0, 0)), some (rbI ho), some (rbI pl), some (rbI fo0), none, none] [] (wI G W)
  refine rb_aload_n C dL_subscriber_0 rfl ?_
  refine rb_iload_n C dL_subscriber_1 rfl ?_
  refine rb_iload_n C dL_subscriber_2 rfl ?_
  refine rb_iload_n C dL_subscriber_3 rfl ?_
  refine rb_callV C M_L_42 (fun l X => k_X7_subscriber l X G W cn ag hG ho pl fo0 hI hm) rfl (Nat.le_of_ble_eq_true rfl) rfl dL_subscriber_4 rfl rfl rfl (Nat.le_of_ble_eq_true rfl) ⟨(Nat.le_of_ble_eq_true rfl), (Nat.le_of_ble_eq_true rfl)⟩ (Nat.le_of_ble_eq_true rfl) (Nat.le_of_ble_eq_true rfl) (fun v G' hp => ?_) (fun E9 G' hp => ?_)
  · obtain ⟨hf0, hv, G1, W1, e9, hq, hK, hC1⟩ := hp
    subst hv
    rw [e9]
    clear e9 G'
    refine rb_istore C dL_subscriber_7 (Nat.le_of_ble_eq_true rfl) rfl (Lv' := [_, _, _, _, _, _]) rfl ?_
    refine rb_goto C 30 dL_subscriber_9 (by decide) ?_
    refine rb_iload C dL_subscriber_30 rfl ?_
    exact rb_iret C E dL_subscriber_32 (Nat.le_of_ble_eq_true rfl) (Nat.le_of_ble_eq_true rfl) (⟨by rw [lc_0 hf0], Or.inr ⟨hf0, G1, W1, rfl, hq, hK, hC1⟩⟩)
  · obtain ⟨hx, e9⟩ := hp
    rw [e9]
    clear e9 G'
    rcases cd_subscriber W cn ho pl fo0 with h9 | h9 | h9 | h9
    · exact absurd (hx.symm.trans h9) (xc_0 E9)
    · obtain rfl := xc_i1 (hx.symm.trans h9)
      exact rb_catch7 C T E [] ⟨0, 9, 12, 14⟩ [⟨0, 9, 18, 16⟩, ⟨0, 9, 24, 26⟩] rfl (fun z hz => by cases hz) (by decide) (by decide) L_L_14 (by decide +kernel) (i := 5) (pc1 := 14) (pc2 := 17) (n := -7100) (v := -7100) (Or.inl ⟨dL_subscriber_12, rfl⟩) dL_subscriber_14 rfl dL_subscriber_17 (by decide) (Nat.le_of_ble_eq_true rfl) (Nat.le_of_ble_eq_true rfl) (Nat.le_of_ble_eq_true rfl) ⟨by rw [lc_1 h9], Or.inl ⟨fun q => absurd (h9.symm.trans q) (by decide), rfl⟩⟩
    · obtain rfl := xc_i2 (hx.symm.trans h9)
      exact rb_catch7 C T E [⟨0, 9, 12, 14⟩] ⟨0, 9, 18, 16⟩ [⟨0, 9, 24, 26⟩] rfl (fun z hz => by
        simp only [List.mem_cons, List.not_mem_nil, or_false] at hz
        subst hz
        exact ⟨by decide, _, L_L_14, by decide +kernel⟩) (by decide) (by decide) L_L_16 (by decide +kernel) (i := 5) (pc1 := 20) (pc2 := 23) (n := -7200) (v := -7200) (Or.inl ⟨dL_subscriber_18, rfl⟩) dL_subscriber_20 rfl dL_subscriber_23 (by decide) (Nat.le_of_ble_eq_true rfl) (Nat.le_of_ble_eq_true rfl) (Nat.le_of_ble_eq_true rfl) ⟨by rw [lc_2 h9], Or.inl ⟨fun q => absurd (h9.symm.trans q) (by decide), rfl⟩⟩
    · obtain rfl := xc_i3 (hx.symm.trans h9)
      exact rb_catch7 C T E [⟨0, 9, 12, 14⟩, ⟨0, 9, 18, 16⟩] ⟨0, 9, 24, 26⟩ [] rfl (fun z hz => by
        simp only [List.mem_cons, List.not_mem_nil, or_false] at hz
        rcases hz with hz | hz
        · subst hz
          exact ⟨by decide, _, L_L_14, by decide +kernel⟩
        · subst hz
          exact ⟨by decide, _, L_L_16, by decide +kernel⟩) (by decide) (by decide) L_L_26 (by decide +kernel) (i := 5) (pc1 := 26) (pc2 := 29) (n := -7300) (v := -7300) (Or.inl ⟨dL_subscriber_24, rfl⟩) dL_subscriber_26 rfl dL_subscriber_29 (by decide) (Nat.le_of_ble_eq_true rfl) (Nat.le_of_ble_eq_true rfl) (Nat.le_of_ble_eq_true rfl) ⟨by rw [lc_3 h9], Or.inl ⟨fun q => absurd (h9.symm.trans q) (by decide), rfl⟩⟩

theorem cd_move (W : rb_I) (cn : Nat → Nat) (s p : Int32) : (x7_move W cn s p).1 = 0 ∨ (x7_move W cn s p).1 = 1 := by
  unfold x7_move
  (repeat' split) <;> first | exact Or.inl rfl | exact Or.inr (rfl)
set_option maxRecDepth 100000 in
set_option maxHeartbeats 4000000 in
theorem k_L_move (l : Launch) (X : rb_X) (G : rb_G) (W : rb_I) (cn : Nat → Nat) (ag : Nat → Nat → Int32) (hG : xCS G cn ag) (s p : Int32) (hI : xCI W cn) : rb_N l X yL_move (.codeWith yL_move cL_move 5 (some .int) [(0, 7, 10, 14)]) 8 134 12 72 [rbR (0, 0, 0), rbI s, rbI p] (wI G W) (fun v9 G9 => v9 = some (rbI (lc (x7_move W cn s p))) ∧ G9 = wI G (x7_move W cn s p).2.2) := by
  refine rb_startW RL rfl (by decide +kernel) rfl (Nat.le_of_ble_eq_true rfl) ?_
  intro Φ C E T
  show rb_W Φ 0 0 0 [some (rbR (0, 0, 0)), some (rbI s), some (rbI p), none, none] [] (wI G W)
  refine rb_aload_n C dL_move_0 rfl ?_
  refine rb_iload_n C dL_move_1 rfl ?_
  refine rb_iload_n C dL_move_2 rfl ?_
  refine rb_callV C M_L_46 (fun l X => k_X7_move l X G W cn ag hG s p hI) rfl (Nat.le_of_ble_eq_true rfl) rfl dL_move_3 rfl rfl rfl (Nat.le_of_ble_eq_true rfl) ⟨(Nat.le_of_ble_eq_true rfl), (Nat.le_of_ble_eq_true rfl)⟩ (Nat.le_of_ble_eq_true rfl) (Nat.le_of_ble_eq_true rfl) (fun v G' hp => ?_) (fun E9 G' hp => ?_)
  · obtain ⟨hf0, hv, e9⟩ := hp
    subst hv
    rw [e9]
    clear e9 G'
    refine rb_istore_n C dL_move_6 (Nat.le_of_ble_eq_true rfl) rfl (Lv' := [_, _, _, _, _]) rfl ?_
    refine rb_goto C 16 dL_move_7 (by decide) ?_
    refine rb_iload_n C dL_move_16 rfl ?_
    exact rb_iret C E dL_move_17 (Nat.le_of_ble_eq_true rfl) (Nat.le_of_ble_eq_true rfl) (⟨by rw [lc_0 hf0], rfl⟩)
  · obtain ⟨hx, e9⟩ := hp
    rw [e9]
    clear e9 G'
    rcases cd_move W cn s p with h9 | h9
    · exact absurd (hx.symm.trans h9) (xc_0 E9)
    · obtain rfl := xc_i1 (hx.symm.trans h9)
      exact rb_catch7 C T E [] ⟨0, 7, 10, 14⟩ [] rfl (fun z hz => by cases hz) (by decide) (by decide) L_L_14 (by decide +kernel) (i := 4) (pc1 := 12) (pc2 := 15) (n := -7100) (v := -7100) (Or.inl ⟨dL_move_10, rfl⟩) dL_move_12 rfl dL_move_15 (by decide) (Nat.le_of_ble_eq_true rfl) (Nat.le_of_ble_eq_true rfl) (Nat.le_of_ble_eq_true rfl) ⟨by rw [lc_1 h9], rfl⟩

theorem cd_off (W : rb_I) (cn : Nat → Nat) (s : Int32) : (x7_off W cn s).1 = 0 ∨ (x7_off W cn s).1 = 1 := by
  unfold x7_off
  (repeat' split) <;> first | exact Or.inl rfl | exact Or.inr (rfl)
set_option maxRecDepth 100000 in
set_option maxHeartbeats 4000000 in
theorem k_L_off (l : Launch) (X : rb_X) (G : rb_G) (W : rb_I) (cn : Nat → Nat) (ag : Nat → Nat → Int32) (hG : xCS G cn ag) (s : Int32) (hI : xCI W cn) : rb_N l X yL_off (.codeWith yL_off cL_off 4 (some .int) [(0, 6, 9, 14)]) 8 134 12 72 [rbR (0, 0, 0), rbI s] (wI G W) (fun v9 G9 => v9 = some (rbI (lc (x7_off W cn s))) ∧ G9 = wI G (x7_off W cn s).2.2) := by
  refine rb_startW RL rfl (by decide +kernel) rfl (Nat.le_of_ble_eq_true rfl) ?_
  intro Φ C E T
  show rb_W Φ 0 0 0 [some (rbR (0, 0, 0)), some (rbI s), none, none] [] (wI G W)
  refine rb_aload_n C dL_off_0 rfl ?_
  refine rb_iload_n C dL_off_1 rfl ?_
  refine rb_callV C M_L_49 (fun l X => k_X7_off l X G W cn ag hG s hI) rfl (Nat.le_of_ble_eq_true rfl) rfl dL_off_2 rfl rfl rfl (Nat.le_of_ble_eq_true rfl) ⟨(Nat.le_of_ble_eq_true rfl), (Nat.le_of_ble_eq_true rfl)⟩ (Nat.le_of_ble_eq_true rfl) (Nat.le_of_ble_eq_true rfl) (fun v G' hp => ?_) (fun E9 G' hp => ?_)
  · obtain ⟨hf0, hv, e9⟩ := hp
    subst hv
    rw [e9]
    clear e9 G'
    refine rb_istore_n C dL_off_5 (Nat.le_of_ble_eq_true rfl) rfl (Lv' := [_, _, _, _]) rfl ?_
    refine rb_goto C 14 dL_off_6 (by decide) ?_
    refine rb_iload_n C dL_off_14 rfl ?_
    exact rb_iret C E dL_off_15 (Nat.le_of_ble_eq_true rfl) (Nat.le_of_ble_eq_true rfl) (⟨by rw [lc_0 hf0], rfl⟩)
  · obtain ⟨hx, e9⟩ := hp
    rw [e9]
    clear e9 G'
    rcases cd_off W cn s with h9 | h9
    · exact absurd (hx.symm.trans h9) (xc_0 E9)
    · obtain rfl := xc_i1 (hx.symm.trans h9)
      exact rb_catch7 C T E [] ⟨0, 6, 9, 14⟩ [] rfl (fun z hz => by cases hz) (by decide) (by decide) L_L_14 (by decide +kernel) (i := 3) (pc1 := 10) (pc2 := 13) (n := -7100) (v := -7100) (Or.inr ⟨dL_off_9, rfl, rfl⟩) dL_off_10 rfl dL_off_13 (by decide) (Nat.le_of_ble_eq_true rfl) (Nat.le_of_ble_eq_true rfl) (Nat.le_of_ble_eq_true rfl) ⟨by rw [lc_1 h9], rfl⟩

theorem cd_attach (W : rb_I) (cn : Nat → Nat) (s n : Int32) : (x7_attach W cn s n).1 = 0 ∨ (x7_attach W cn s n).1 = 1 ∨ (x7_attach W cn s n).1 = 3 := by
  unfold x7_attach
  (repeat' split) <;> first | exact Or.inl rfl | exact Or.inr (Or.inl rfl) | exact Or.inr (Or.inr (rfl))
set_option maxRecDepth 100000 in
set_option maxHeartbeats 4000000 in
theorem k_L_attach (l : Launch) (X : rb_X) (G : rb_G) (W : rb_I) (cn : Nat → Nat) (ag : Nat → Nat → Int32) (hG : xCS G cn ag) (s n : Int32) (hI : xCI W cn) : rb_N l X yL_attach (.codeWith yL_attach cL_attach 5 (some .int) [(0, 7, 10, 14), (0, 7, 16, 26)]) 8 169 12 72 [rbR (0, 0, 0), rbI s, rbI n] (wI G W) (fun v9 G9 => v9 = some (rbI (lc (x7_attach W cn s n))) ∧ G9 = wI G (x7_attach W cn s n).2.2) := by
  refine rb_startW RL rfl (by decide +kernel) rfl (Nat.le_of_ble_eq_true rfl) ?_
  intro Φ C E T
  show rb_W Φ 0 0 0 [some (rbR (0, 0, 0)), some (rbI s), some (rbI n), none, none] [] (wI G W)
  refine rb_aload_n C dL_attach_0 rfl ?_
  refine rb_iload_n C dL_attach_1 rfl ?_
  refine rb_iload_n C dL_attach_2 rfl ?_
  refine rb_callV C M_L_52 (fun l X => k_X7_attach l X G W cn ag hG s n hI) rfl (Nat.le_of_ble_eq_true rfl) rfl dL_attach_3 rfl rfl rfl (Nat.le_of_ble_eq_true rfl) ⟨(Nat.le_of_ble_eq_true rfl), (Nat.le_of_ble_eq_true rfl)⟩ (Nat.le_of_ble_eq_true rfl) (Nat.le_of_ble_eq_true rfl) (fun v G' hp => ?_) (fun E9 G' hp => ?_)
  · obtain ⟨hf0, hv, e9⟩ := hp
    subst hv
    rw [e9]
    clear e9 G'
    refine rb_istore_n C dL_attach_6 (Nat.le_of_ble_eq_true rfl) rfl (Lv' := [_, _, _, _, _]) rfl ?_
    refine rb_goto C 22 dL_attach_7 (by decide) ?_
    refine rb_iload_n C dL_attach_22 rfl ?_
    exact rb_iret C E dL_attach_23 (Nat.le_of_ble_eq_true rfl) (Nat.le_of_ble_eq_true rfl) (⟨by rw [lc_0 hf0], rfl⟩)
  · obtain ⟨hx, e9⟩ := hp
    rw [e9]
    clear e9 G'
    rcases cd_attach W cn s n with h9 | h9 | h9
    · exact absurd (hx.symm.trans h9) (xc_0 E9)
    · obtain rfl := xc_i1 (hx.symm.trans h9)
      exact rb_catch7 C T E [] ⟨0, 7, 10, 14⟩ [⟨0, 7, 16, 26⟩] rfl (fun z hz => by cases hz) (by decide) (by decide) L_L_14 (by decide +kernel) (i := 4) (pc1 := 12) (pc2 := 15) (n := -7100) (v := -7100) (Or.inl ⟨dL_attach_10, rfl⟩) dL_attach_12 rfl dL_attach_15 (by decide) (Nat.le_of_ble_eq_true rfl) (Nat.le_of_ble_eq_true rfl) (Nat.le_of_ble_eq_true rfl) ⟨by rw [lc_1 h9], rfl⟩
    · obtain rfl := xc_i3 (hx.symm.trans h9)
      exact rb_catch7 C T E [⟨0, 7, 10, 14⟩] ⟨0, 7, 16, 26⟩ [] rfl (fun z hz => by
        simp only [List.mem_cons, List.not_mem_nil, or_false] at hz
        subst hz
        exact ⟨by decide, _, L_L_14, by decide +kernel⟩) (by decide) (by decide) L_L_26 (by decide +kernel) (i := 4) (pc1 := 18) (pc2 := 21) (n := -7300) (v := -7300) (Or.inl ⟨dL_attach_16, rfl⟩) dL_attach_18 rfl dL_attach_21 (by decide) (Nat.le_of_ble_eq_true rfl) (Nat.le_of_ble_eq_true rfl) (Nat.le_of_ble_eq_true rfl) ⟨by rw [lc_3 h9], rfl⟩

theorem cd_emergency (W : rb_I) (cn : Nat → Nat) (u : Int32) : (x7_emergency W cn u).1 = 0 ∨ (x7_emergency W cn u).1 = 1 := by
  unfold x7_emergency
  (repeat' split) <;> first | exact Or.inl rfl | exact Or.inr (rfl) | exact Or.inl (em_1 _ _ _ _)
set_option maxRecDepth 100000 in
set_option maxHeartbeats 4000000 in
theorem k_L_emergency (l : Launch) (X : rb_X) (G : rb_G) (W : rb_I) (cn : Nat → Nat) (ag : Nat → Nat → Int32) (hG : xCS G cn ag) (u : Int32) (hI : xCI W cn) : rb_N l X yL_emergency (.codeWith yL_emergency cL_emergency 4 (some .int) [(0, 6, 9, 14)]) 8 135 12 72 [rbR (0, 0, 0), rbI u] (wI G W) (fun v9 G9 => v9 = some (rbI (lc (x7_emergency W cn u))) ∧ G9 = wI G (x7_emergency W cn u).2.2) := by
  refine rb_startW RL rfl (by decide +kernel) rfl (Nat.le_of_ble_eq_true rfl) ?_
  intro Φ C E T
  show rb_W Φ 0 0 0 [some (rbR (0, 0, 0)), some (rbI u), none, none] [] (wI G W)
  refine rb_aload_n C dL_emergency_0 rfl ?_
  refine rb_iload_n C dL_emergency_1 rfl ?_
  refine rb_callV C M_L_55 (fun l X => k_X7_emergency l X G W cn ag hG u hI) rfl (Nat.le_of_ble_eq_true rfl) rfl dL_emergency_2 rfl rfl rfl (Nat.le_of_ble_eq_true rfl) ⟨(Nat.le_of_ble_eq_true rfl), (Nat.le_of_ble_eq_true rfl)⟩ (Nat.le_of_ble_eq_true rfl) (Nat.le_of_ble_eq_true rfl) (fun v G' hp => ?_) (fun E9 G' hp => ?_)
  · obtain ⟨hf0, hv, e9⟩ := hp
    subst hv
    rw [e9]
    clear e9 G'
    refine rb_istore_n C dL_emergency_5 (Nat.le_of_ble_eq_true rfl) rfl (Lv' := [_, _, _, _]) rfl ?_
    refine rb_goto C 14 dL_emergency_6 (by decide) ?_
    refine rb_iload_n C dL_emergency_14 rfl ?_
    exact rb_iret C E dL_emergency_15 (Nat.le_of_ble_eq_true rfl) (Nat.le_of_ble_eq_true rfl) (⟨by rw [lc_0 hf0], rfl⟩)
  · obtain ⟨hx, e9⟩ := hp
    rw [e9]
    clear e9 G'
    rcases cd_emergency W cn u with h9 | h9
    · exact absurd (hx.symm.trans h9) (xc_0 E9)
    · obtain rfl := xc_i1 (hx.symm.trans h9)
      exact rb_catch7 C T E [] ⟨0, 6, 9, 14⟩ [] rfl (fun z hz => by cases hz) (by decide) (by decide) L_L_14 (by decide +kernel) (i := 3) (pc1 := 10) (pc2 := 13) (n := -7100) (v := -7100) (Or.inr ⟨dL_emergency_9, rfl, rfl⟩) dL_emergency_10 rfl dL_emergency_13 (by decide) (Nat.le_of_ble_eq_true rfl) (Nat.le_of_ble_eq_true rfl) (Nat.le_of_ble_eq_true rfl) ⟨by rw [lc_1 h9], rfl⟩

theorem cd_where (W : rb_I) (cn : Nat → Nat) (s : Int32) : (x7_where W cn s).1 = 0 ∨ (x7_where W cn s).1 = 1 := by
  unfold x7_where
  (repeat' split) <;> first | exact Or.inl rfl | exact Or.inr (rfl)
set_option maxRecDepth 100000 in
set_option maxHeartbeats 4000000 in
theorem k_L_where (l : Launch) (X : rb_X) (G : rb_G) (W : rb_I) (cn : Nat → Nat) (ag : Nat → Nat → Int32) (hG : xCS G cn ag) (s : Int32) (hI : xCI W cn) : rb_N l X yL_where (.codeWith yL_where cL_where 4 (some .int) [(0, 6, 9, 14)]) 8 132 12 72 [rbR (0, 0, 0), rbI s] (wI G W) (fun v9 G9 => v9 = some (rbI (lc (x7_where W cn s))) ∧ G9 = wI G (x7_where W cn s).2.2) := by
  refine rb_startW RL rfl (by decide +kernel) rfl (Nat.le_of_ble_eq_true rfl) ?_
  intro Φ C E T
  show rb_W Φ 0 0 0 [some (rbR (0, 0, 0)), some (rbI s), none, none] [] (wI G W)
  refine rb_aload_n C dL_where_0 rfl ?_
  refine rb_iload_n C dL_where_1 rfl ?_
  refine rb_callV C M_L_58 (fun l X => k_X7_where l X G W cn ag hG s hI) rfl (Nat.le_of_ble_eq_true rfl) rfl dL_where_2 rfl rfl rfl (Nat.le_of_ble_eq_true rfl) ⟨(Nat.le_of_ble_eq_true rfl), (Nat.le_of_ble_eq_true rfl)⟩ (Nat.le_of_ble_eq_true rfl) (Nat.le_of_ble_eq_true rfl) (fun v G' hp => ?_) (fun E9 G' hp => ?_)
  · obtain ⟨hf0, hv, e9⟩ := hp
    subst hv
    rw [e9]
    clear e9 G'
    refine rb_istore_n C dL_where_5 (Nat.le_of_ble_eq_true rfl) rfl (Lv' := [_, _, _, _]) rfl ?_
    refine rb_goto C 14 dL_where_6 (by decide) ?_
    refine rb_iload_n C dL_where_14 rfl ?_
    exact rb_iret C E dL_where_15 (Nat.le_of_ble_eq_true rfl) (Nat.le_of_ble_eq_true rfl) (⟨by rw [lc_0 hf0], rfl⟩)
  · obtain ⟨hx, e9⟩ := hp
    rw [e9]
    clear e9 G'
    rcases cd_where W cn s with h9 | h9
    · exact absurd (hx.symm.trans h9) (xc_0 E9)
    · obtain rfl := xc_i1 (hx.symm.trans h9)
      exact rb_catch7 C T E [] ⟨0, 6, 9, 14⟩ [] rfl (fun z hz => by cases hz) (by decide) (by decide) L_L_14 (by decide +kernel) (i := 3) (pc1 := 10) (pc2 := 13) (n := -7100) (v := -7100) (Or.inr ⟨dL_where_9, rfl, rfl⟩) dL_where_10 rfl dL_where_13 (by decide) (Nat.le_of_ble_eq_true rfl) (Nat.le_of_ble_eq_true rfl) (Nat.le_of_ble_eq_true rfl) ⟨by rw [lc_1 h9], rfl⟩

theorem cd_contact (W : rb_I) (cn : Nat → Nat) (n s : Int32) : (x7_contact W cn n s).1 = 0 ∨ (x7_contact W cn n s).1 = 1 := by
  unfold x7_contact
  (repeat' split) <;> first | exact Or.inl rfl | exact Or.inr (rfl)
set_option maxRecDepth 100000 in
set_option maxHeartbeats 4000000 in
theorem k_L_contact (l : Launch) (X : rb_X) (G : rb_G) (W : rb_I) (cn : Nat → Nat) (ag : Nat → Nat → Int32) (hG : xCS G cn ag) (n s : Int32) (hI : xCI W cn) : rb_N l X yL_contact (.codeWith yL_contact cL_contact 5 (some .int) [(0, 7, 10, 14)]) 9 155 12 72 [rbR (0, 0, 0), rbI n, rbI s] (wI G W) (fun v9 G9 => v9 = some (rbI (lc (x7_contact W cn n s))) ∧ G9 = wI G (x7_contact W cn n s).2.2) := by
  refine rb_startW RL rfl (by decide +kernel) rfl (Nat.le_of_ble_eq_true rfl) ?_
  intro Φ C E T
  show rb_W Φ 0 0 0 [some (rbR (0, 0, 0)), some (rbI n), some (rbI s), none, none] [] (wI G W)
  refine rb_aload_n C dL_contact_0 rfl ?_
  refine rb_iload_n C dL_contact_1 rfl ?_
  refine rb_iload_n C dL_contact_2 rfl ?_
  refine rb_callV C M_L_61 (fun l X => k_X7_contact l X G W cn ag hG n s hI) rfl (Nat.le_of_ble_eq_true rfl) rfl dL_contact_3 rfl rfl rfl (Nat.le_of_ble_eq_true rfl) ⟨(Nat.le_of_ble_eq_true rfl), (Nat.le_of_ble_eq_true rfl)⟩ (Nat.le_of_ble_eq_true rfl) (Nat.le_of_ble_eq_true rfl) (fun v G' hp => ?_) (fun E9 G' hp => ?_)
  · obtain ⟨hf0, hv, e9⟩ := hp
    subst hv
    rw [e9]
    clear e9 G'
    refine rb_istore_n C dL_contact_6 (Nat.le_of_ble_eq_true rfl) rfl (Lv' := [_, _, _, _, _]) rfl ?_
    refine rb_goto C 16 dL_contact_7 (by decide) ?_
    refine rb_iload_n C dL_contact_16 rfl ?_
    exact rb_iret C E dL_contact_17 (Nat.le_of_ble_eq_true rfl) (Nat.le_of_ble_eq_true rfl) (⟨by rw [lc_0 hf0], rfl⟩)
  · obtain ⟨hx, e9⟩ := hp
    rw [e9]
    clear e9 G'
    rcases cd_contact W cn n s with h9 | h9
    · exact absurd (hx.symm.trans h9) (xc_0 E9)
    · obtain rfl := xc_i1 (hx.symm.trans h9)
      exact rb_catch7 C T E [] ⟨0, 7, 10, 14⟩ [] rfl (fun z hz => by cases hz) (by decide) (by decide) L_L_14 (by decide +kernel) (i := 4) (pc1 := 12) (pc2 := 15) (n := -7100) (v := -7100) (Or.inl ⟨dL_contact_10, rfl⟩) dL_contact_12 rfl dL_contact_15 (by decide) (Nat.le_of_ble_eq_true rfl) (Nat.le_of_ble_eq_true rfl) (Nat.le_of_ble_eq_true rfl) ⟨by rw [lc_1 h9], rfl⟩

theorem cd_agrees (W : rb_I) (cn : Nat → Nat) (u : Int32) : (x7_agrees W cn u).1 = 0 ∨ (x7_agrees W cn u).1 = 1 := by
  unfold x7_agrees
  (repeat' split) <;> first | exact Or.inl rfl | exact Or.inr (rfl) | exact Or.inl (ag_1 _ _ _ _)
set_option maxRecDepth 100000 in
set_option maxHeartbeats 4000000 in
theorem k_L_agrees (l : Launch) (X : rb_X) (G : rb_G) (W : rb_I) (cn : Nat → Nat) (ag : Nat → Nat → Int32) (hG : xCS G cn ag) (u : Int32) (hI : xCI W cn) : rb_N l X yL_agrees (.codeWith yL_agrees cL_agrees 4 (some .int) [(0, 6, 9, 14)]) 8 134 12 72 [rbR (0, 0, 0), rbI u] (wI G W) (fun v9 G9 => v9 = some (rbI (lcz (x7_agrees W cn u))) ∧ G9 = wI G (x7_agrees W cn u).2.2) := by
  refine rb_startW RL rfl (by decide +kernel) rfl (Nat.le_of_ble_eq_true rfl) ?_
  intro Φ C E T
  show rb_W Φ 0 0 0 [some (rbR (0, 0, 0)), some (rbI u), none, none] [] (wI G W)
  refine rb_aload_n C dL_agrees_0 rfl ?_
  refine rb_iload_n C dL_agrees_1 rfl ?_
  refine rb_callV C M_L_64 (fun l X => k_X7_agrees l X G W cn ag hG u hI) rfl (Nat.le_of_ble_eq_true rfl) rfl dL_agrees_2 rfl rfl rfl (Nat.le_of_ble_eq_true rfl) ⟨(Nat.le_of_ble_eq_true rfl), (Nat.le_of_ble_eq_true rfl)⟩ (Nat.le_of_ble_eq_true rfl) (Nat.le_of_ble_eq_true rfl) (fun v G' hp => ?_) (fun E9 G' hp => ?_)
  · obtain ⟨hf0, hv, e9⟩ := hp
    subst hv
    rw [e9]
    clear e9 G'
    refine rb_istore_n C dL_agrees_5 (Nat.le_of_ble_eq_true rfl) rfl (Lv' := [_, _, _, _]) rfl ?_
    refine rb_goto C 14 dL_agrees_6 (by decide) ?_
    refine rb_iload_n C dL_agrees_14 rfl ?_
    refine rb_if_eq C 22 dL_agrees_15 (by decide) (fun hz => ?_) (fun hz => ?_)
    · refine rb_iconst C dL_agrees_22 (v := 0) (by decide) ?_
      exact rb_iret C E dL_agrees_23 (Nat.le_of_ble_eq_true rfl) (Nat.le_of_ble_eq_true rfl) (⟨by rw [lcz_0t hf0 hz], rfl⟩)
    · refine rb_iconst C dL_agrees_18 (v := 1) (by decide) ?_
      refine rb_goto C 23 dL_agrees_19 (by decide) ?_
      exact rb_iret C E dL_agrees_23 (Nat.le_of_ble_eq_true rfl) (Nat.le_of_ble_eq_true rfl) (⟨by rw [lcz_0f hf0 hz], rfl⟩)
  · obtain ⟨hx, e9⟩ := hp
    rw [e9]
    clear e9 G'
    rcases cd_agrees W cn u with h9 | h9
    · exact absurd (hx.symm.trans h9) (xc_0 E9)
    · obtain rfl := xc_i1 (hx.symm.trans h9)
      exact rb_catch7 C T E [] ⟨0, 6, 9, 14⟩ [] rfl (fun z hz => by cases hz) (by decide) (by decide) L_L_14 (by decide +kernel) (i := 3) (pc1 := 10) (pc2 := 13) (n := -7100) (v := -7100) (Or.inr ⟨dL_agrees_9, rfl, rfl⟩) dL_agrees_10 rfl dL_agrees_13 (by decide) (Nat.le_of_ble_eq_true rfl) (Nat.le_of_ble_eq_true rfl) (Nat.le_of_ble_eq_true rfl) ⟨by rw [lcz_1 h9], rfl⟩

theorem cd_subscriberIs (W : rb_I) (cn : Nat → Nat) (s what : Int32) : (x7_subscriberIs W cn s what).1 = 0 ∨ (x7_subscriberIs W cn s what).1 = 1 ∨ (x7_subscriberIs W cn s what).1 = 2 := by
  unfold x7_subscriberIs
  (repeat' split) <;> first | exact Or.inl rfl | exact Or.inr (Or.inl rfl) | exact Or.inr (Or.inr (rfl))
set_option maxRecDepth 100000 in
set_option maxHeartbeats 4000000 in
theorem k_L_subscriberIs (l : Launch) (X : rb_X) (G : rb_G) (W : rb_I) (cn : Nat → Nat) (ag : Nat → Nat → Int32) (hG : xCS G cn ag) (s what : Int32) (hI : xCI W cn) : rb_N l X yL_subscriberIs (.codeWith yL_subscriberIs cL_subscriberIs 5 (some .int) [(0, 7, 10, 14), (0, 7, 16, 16)]) 8 134 12 72 [rbR (0, 0, 0), rbI s, rbI what] (wI G W) (fun v9 G9 => v9 = some (rbI (lc (x7_subscriberIs W cn s what))) ∧ G9 = wI G (x7_subscriberIs W cn s what).2.2) := by
  refine rb_startW RL rfl (by decide +kernel) rfl (Nat.le_of_ble_eq_true rfl) ?_
  intro Φ C E T
  show rb_W Φ 0 0 0 [some (rbR (0, 0, 0)), some (rbI s), some (rbI what), none, none] [] (wI G W)
  refine rb_aload_n C dL_subscriberIs_0 rfl ?_
  refine rb_iload_n C dL_subscriberIs_1 rfl ?_
  refine rb_iload_n C dL_subscriberIs_2 rfl ?_
  refine rb_callV C M_L_68 (fun l X => k_X7_subscriberIs l X G W cn ag hG s what hI) rfl (Nat.le_of_ble_eq_true rfl) rfl dL_subscriberIs_3 rfl rfl rfl (Nat.le_of_ble_eq_true rfl) ⟨(Nat.le_of_ble_eq_true rfl), (Nat.le_of_ble_eq_true rfl)⟩ (Nat.le_of_ble_eq_true rfl) (Nat.le_of_ble_eq_true rfl) (fun v G' hp => ?_) (fun E9 G' hp => ?_)
  · obtain ⟨hf0, hv, e9⟩ := hp
    subst hv
    rw [e9]
    clear e9 G'
    refine rb_istore_n C dL_subscriberIs_6 (Nat.le_of_ble_eq_true rfl) rfl (Lv' := [_, _, _, _, _]) rfl ?_
    refine rb_goto C 22 dL_subscriberIs_7 (by decide) ?_
    refine rb_iload_n C dL_subscriberIs_22 rfl ?_
    exact rb_iret C E dL_subscriberIs_23 (Nat.le_of_ble_eq_true rfl) (Nat.le_of_ble_eq_true rfl) (⟨by rw [lc_0 hf0], rfl⟩)
  · obtain ⟨hx, e9⟩ := hp
    rw [e9]
    clear e9 G'
    rcases cd_subscriberIs W cn s what with h9 | h9 | h9
    · exact absurd (hx.symm.trans h9) (xc_0 E9)
    · obtain rfl := xc_i1 (hx.symm.trans h9)
      exact rb_catch7 C T E [] ⟨0, 7, 10, 14⟩ [⟨0, 7, 16, 16⟩] rfl (fun z hz => by cases hz) (by decide) (by decide) L_L_14 (by decide +kernel) (i := 4) (pc1 := 12) (pc2 := 15) (n := -7100) (v := -7100) (Or.inl ⟨dL_subscriberIs_10, rfl⟩) dL_subscriberIs_12 rfl dL_subscriberIs_15 (by decide) (Nat.le_of_ble_eq_true rfl) (Nat.le_of_ble_eq_true rfl) (Nat.le_of_ble_eq_true rfl) ⟨by rw [lc_1 h9], rfl⟩
    · obtain rfl := xc_i2 (hx.symm.trans h9)
      exact rb_catch7 C T E [⟨0, 7, 10, 14⟩] ⟨0, 7, 16, 16⟩ [] rfl (fun z hz => by
        simp only [List.mem_cons, List.not_mem_nil, or_false] at hz
        subst hz
        exact ⟨by decide, _, L_L_14, by decide +kernel⟩) (by decide) (by decide) L_L_16 (by decide +kernel) (i := 4) (pc1 := 18) (pc2 := 21) (n := -7200) (v := -7200) (Or.inl ⟨dL_subscriberIs_16, rfl⟩) dL_subscriberIs_18 rfl dL_subscriberIs_21 (by decide) (Nat.le_of_ble_eq_true rfl) (Nat.le_of_ble_eq_true rfl) (Nat.le_of_ble_eq_true rfl) ⟨by rw [lc_2 h9], rfl⟩

theorem cd_cap (W : rb_I) (cn : Nat → Nat) (s c co : Int32) : (x7_cap W cn s c co).1 = 0 ∨ (x7_cap W cn s c co).1 = 1 ∨ (x7_cap W cn s c co).1 = 2 := by
  unfold x7_cap
  (repeat' split) <;> first | exact Or.inl rfl | exact Or.inr (Or.inl rfl) | exact Or.inr (Or.inr (rfl))
set_option maxRecDepth 100000 in
set_option maxHeartbeats 4000000 in
theorem k_L_cap (l : Launch) (X : rb_X) (G : rb_G) (W : rb_I) (cn : Nat → Nat) (ag : Nat → Nat → Int32) (hG : xCS G cn ag) (s c co : Int32) (hI : xCI W cn) (hco : co = 0 ∨ co = 1) : rb_N l X yL_cap (.codeWith yL_cap cL_cap 5 (some .int) [(0, 7, 10, 14), (0, 7, 16, 16)]) 8 136 12 72 [rbR (0, 0, 0), rbI s, rbI c, rbI co] (wI G W) (fun v9 G9 => v9 = some (rbI (lcv (x7_cap W cn s c co))) ∧ G9 = wI G (x7_cap W cn s c co).2.2) := by
  refine rb_startW RL rfl (by decide +kernel) rfl (Nat.le_of_ble_eq_true rfl) ?_
  intro Φ C E T
  show rb_W Φ 0 0 0 [some (rbR (0, 0, 0)), some (rbI s), some (rbI c), some (rbI co), none] [] (wI G W)
  refine rb_aload_n C dL_cap_0 rfl ?_
  refine rb_iload_n C dL_cap_1 rfl ?_
  refine rb_iload_n C dL_cap_2 rfl ?_
  refine rb_iload_n C dL_cap_3 rfl ?_
  refine rb_callV C M_L_71 (fun l X => k_X7_cap l X G W cn ag hG s c co hI hco) rfl (Nat.le_of_ble_eq_true rfl) rfl dL_cap_4 rfl rfl rfl (Nat.le_of_ble_eq_true rfl) ⟨(Nat.le_of_ble_eq_true rfl), (Nat.le_of_ble_eq_true rfl)⟩ (Nat.le_of_ble_eq_true rfl) (Nat.le_of_ble_eq_true rfl) (fun v G' hp => ?_) (fun E9 G' hp => ?_)
  · obtain ⟨hf0, hv, e9⟩ := hp
    subst hv
    rw [e9]
    clear e9 G'
    refine rb_goto C 22 dL_cap_7 (by decide) ?_
    refine rb_iconst C dL_cap_22 (v := 0) (by decide) ?_
    exact rb_iret C E dL_cap_23 (Nat.le_of_ble_eq_true rfl) (Nat.le_of_ble_eq_true rfl) (⟨by rw [lcv_0 hf0], rfl⟩)
  · obtain ⟨hx, e9⟩ := hp
    rw [e9]
    clear e9 G'
    rcases cd_cap W cn s c co with h9 | h9 | h9
    · exact absurd (hx.symm.trans h9) (xc_0 E9)
    · obtain rfl := xc_i1 (hx.symm.trans h9)
      exact rb_catch7 C T E [] ⟨0, 7, 10, 14⟩ [⟨0, 7, 16, 16⟩] rfl (fun z hz => by cases hz) (by decide) (by decide) L_L_14 (by decide +kernel) (i := 4) (pc1 := 12) (pc2 := 15) (n := -7100) (v := -7100) (Or.inl ⟨dL_cap_10, rfl⟩) dL_cap_12 rfl dL_cap_15 (by decide) (Nat.le_of_ble_eq_true rfl) (Nat.le_of_ble_eq_true rfl) (Nat.le_of_ble_eq_true rfl) ⟨by rw [lcv_1 h9], rfl⟩
    · obtain rfl := xc_i2 (hx.symm.trans h9)
      exact rb_catch7 C T E [⟨0, 7, 10, 14⟩] ⟨0, 7, 16, 16⟩ [] rfl (fun z hz => by
        simp only [List.mem_cons, List.not_mem_nil, or_false] at hz
        subst hz
        exact ⟨by decide, _, L_L_14, by decide +kernel⟩) (by decide) (by decide) L_L_16 (by decide +kernel) (i := 4) (pc1 := 18) (pc2 := 21) (n := -7200) (v := -7200) (Or.inl ⟨dL_cap_16, rfl⟩) dL_cap_18 rfl dL_cap_21 (by decide) (Nat.le_of_ble_eq_true rfl) (Nat.le_of_ble_eq_true rfl) (Nat.le_of_ble_eq_true rfl) ⟨by rw [lcv_2 h9], rfl⟩

theorem cd_call (W : rb_I) (cn : Nat → Nat) (s o sec : Int32) : (x7_call W cn s o sec).1 = 0 ∨ (x7_call W cn s o sec).1 = 1 ∨ (x7_call W cn s o sec).1 = 2 ∨ (x7_call W cn s o sec).1 = 3 := by
  unfold x7_call
  (repeat' split) <;> first | exact Or.inl rfl | exact Or.inr (Or.inl rfl) | exact Or.inr (Or.inr (Or.inl rfl)) | exact Or.inr (Or.inr (Or.inr (rfl)))
set_option maxRecDepth 100000 in
set_option maxHeartbeats 4000000 in
theorem k_L_call (l : Launch) (X : rb_X) (G : rb_G) (W : rb_I) (cn : Nat → Nat) (ag : Nat → Nat → Int32) (hG : xCS G cn ag) (s o sec : Int32) (hI : xCI W cn) (hm : MS G) (hr : cn 2 < 200 → ∀ k, k < 36 → cn (10 + k) ≤ 398) : rb_N l X yL_call (.codeWith yL_call cL_call 6 (some .int) [(0, 9, 12, 14), (0, 9, 18, 16), (0, 9, 24, 26)]) 9 208 12 2200 [rbR (0, 0, 0), rbI s, rbI o, rbI sec] (wI G W) (fun v9 G9 => v9 = some (rbI (lc (x7_call W cn s o sec))) ∧ (((x7_call W cn s o sec).1 ≠ 0 ∧ G9 = wI G (x7_call W cn s o sec).2.2) ∨ ((x7_call W cn s o sec).1 = 0 ∧ ((¬ (x7_call W cn s o sec).2.1 = 0 ∧ G9 = wI G W) ∨ ((x7_call W cn s o sec).2.1 = 0 ∧ ∃ W1 W2 G3 W3, G9 = wI G3 W3 ∧ xq W1 (x7_call W cn s o sec).2.2 ∧ xq W2 (x7_settle W1 (bump cn 2) s.toNatClampNeg (((sec + 59) / 60) * (x7_priceOfCalling W s.toNatClampNeg)) ((sec + 59) / 60)) ∧ xq W3 (x7_settle W2 (x7_scn W1 (bump cn 2) s.toNatClampNeg (((sec + 59) / 60) * (x7_priceOfCalling W s.toNatClampNeg))) o.toNatClampNeg (((sec + 59) / 60) * (x7_priceOfBeingCalled W o.toNatClampNeg)) ((sec + 59) / 60)) ∧ MK G G3 ∧ xCS G3 (x7_scn W2 (x7_scn W1 (bump cn 2) s.toNatClampNeg (((sec + 59) / 60) * (x7_priceOfCalling W s.toNatClampNeg))) o.toNatClampNeg (((sec + 59) / 60) * (x7_priceOfBeingCalled W o.toNatClampNeg))) (x7_sag W2 (x7_scn W1 (bump cn 2) s.toNatClampNeg (((sec + 59) / 60) * (x7_priceOfCalling W s.toNatClampNeg))) (x7_sag W1 (bump cn 2) ag s.toNatClampNeg (((sec + 59) / 60) * (x7_priceOfCalling W s.toNatClampNeg))) o.toNatClampNeg (((sec + 59) / 60) * (x7_priceOfBeingCalled W o.toNatClampNeg)))))))) := by
  refine rb_startW RL rfl (by decide +kernel) rfl (Nat.le_of_ble_eq_true rfl) ?_
  intro Φ C E T
  show rb_W Φ 0 0 0 [some (rbR (0, 0, 0)), some (rbI s), some (rbI o), some (rbI sec), none, none] [] (wI G W)
  refine rb_aload_n C dL_call_0 rfl ?_
  refine rb_iload_n C dL_call_1 rfl ?_
  refine rb_iload_n C dL_call_2 rfl ?_
  refine rb_iload_n C dL_call_3 rfl ?_
  refine rb_callV C M_L_75 (fun l X => k_X7_call l X G W cn ag hG s o sec hI hm hr) rfl (Nat.le_of_ble_eq_true rfl) rfl dL_call_4 rfl rfl rfl (Nat.le_of_ble_eq_true rfl) ⟨(Nat.le_of_ble_eq_true rfl), (Nat.le_of_ble_eq_true rfl)⟩ (Nat.le_of_ble_eq_true rfl) (Nat.le_of_ble_eq_true rfl) (fun v G' hp => ?_) (fun E9 G' hp => ?_)
  · obtain ⟨hf0, hv, hp⟩ := hp
    subst hv
    rcases hp with ⟨hn, e9⟩ | ⟨hn, W1, W2, G3, W3, e9, q1, q2, q3, hK, hC3⟩
    · rw [e9]
      clear e9 G'
      refine rb_istore C dL_call_7 (Nat.le_of_ble_eq_true rfl) rfl (Lv' := [_, _, _, _, _, _]) rfl ?_
      refine rb_goto C 30 dL_call_9 (by decide) ?_
      refine rb_iload C dL_call_30 rfl ?_
      exact rb_iret C E dL_call_32 (Nat.le_of_ble_eq_true rfl) (Nat.le_of_ble_eq_true rfl) (⟨by rw [lc_0 hf0], Or.inr ⟨hf0, Or.inl ⟨hn, rfl⟩⟩⟩)
    · rw [e9]
      clear e9 G'
      refine rb_istore C dL_call_7 (Nat.le_of_ble_eq_true rfl) rfl (Lv' := [_, _, _, _, _, _]) rfl ?_
      refine rb_goto C 30 dL_call_9 (by decide) ?_
      refine rb_iload C dL_call_30 rfl ?_
      exact rb_iret C E dL_call_32 (Nat.le_of_ble_eq_true rfl) (Nat.le_of_ble_eq_true rfl) (⟨by rw [lc_0 hf0], Or.inr ⟨hf0, Or.inr ⟨hn, W1, W2, G3, W3, rfl, q1, q2, q3, hK, hC3⟩⟩⟩)
  · obtain ⟨hx, e9⟩ := hp
    rw [e9]
    clear e9 G'
    rcases cd_call W cn s o sec with h9 | h9 | h9 | h9
    · exact absurd (hx.symm.trans h9) (xc_0 E9)
    · obtain rfl := xc_i1 (hx.symm.trans h9)
      exact rb_catch7 C T E [] ⟨0, 9, 12, 14⟩ [⟨0, 9, 18, 16⟩, ⟨0, 9, 24, 26⟩] rfl (fun z hz => by cases hz) (by decide) (by decide) L_L_14 (by decide +kernel) (i := 5) (pc1 := 14) (pc2 := 17) (n := -7100) (v := -7100) (Or.inl ⟨dL_call_12, rfl⟩) dL_call_14 rfl dL_call_17 (by decide) (Nat.le_of_ble_eq_true rfl) (Nat.le_of_ble_eq_true rfl) (Nat.le_of_ble_eq_true rfl) ⟨by rw [lc_1 h9], Or.inl ⟨fun q => absurd (h9.symm.trans q) (by decide), rfl⟩⟩
    · obtain rfl := xc_i2 (hx.symm.trans h9)
      exact rb_catch7 C T E [⟨0, 9, 12, 14⟩] ⟨0, 9, 18, 16⟩ [⟨0, 9, 24, 26⟩] rfl (fun z hz => by
        simp only [List.mem_cons, List.not_mem_nil, or_false] at hz
        subst hz
        exact ⟨by decide, _, L_L_14, by decide +kernel⟩) (by decide) (by decide) L_L_16 (by decide +kernel) (i := 5) (pc1 := 20) (pc2 := 23) (n := -7200) (v := -7200) (Or.inl ⟨dL_call_18, rfl⟩) dL_call_20 rfl dL_call_23 (by decide) (Nat.le_of_ble_eq_true rfl) (Nat.le_of_ble_eq_true rfl) (Nat.le_of_ble_eq_true rfl) ⟨by rw [lc_2 h9], Or.inl ⟨fun q => absurd (h9.symm.trans q) (by decide), rfl⟩⟩
    · obtain rfl := xc_i3 (hx.symm.trans h9)
      exact rb_catch7 C T E [⟨0, 9, 12, 14⟩, ⟨0, 9, 18, 16⟩] ⟨0, 9, 24, 26⟩ [] rfl (fun z hz => by
        simp only [List.mem_cons, List.not_mem_nil, or_false] at hz
        rcases hz with hz | hz
        · subst hz
          exact ⟨by decide, _, L_L_14, by decide +kernel⟩
        · subst hz
          exact ⟨by decide, _, L_L_16, by decide +kernel⟩) (by decide) (by decide) L_L_26 (by decide +kernel) (i := 5) (pc1 := 26) (pc2 := 29) (n := -7300) (v := -7300) (Or.inl ⟨dL_call_24, rfl⟩) dL_call_26 rfl dL_call_29 (by decide) (Nat.le_of_ble_eq_true rfl) (Nat.le_of_ble_eq_true rfl) (Nat.le_of_ble_eq_true rfl) ⟨by rw [lc_3 h9], Or.inl ⟨fun q => absurd (h9.symm.trans q) (by decide), rfl⟩⟩

theorem cd_paidAnew (W : rb_I) (cn : Nat → Nat) (u : Int32) : (x7_paidAnew W cn u).1 = 0 ∨ (x7_paidAnew W cn u).1 = 1 := by
  unfold x7_paidAnew
  (repeat' split) <;> first | exact Or.inl rfl | exact Or.inr (rfl)
set_option maxRecDepth 100000 in
set_option maxHeartbeats 4000000 in
theorem k_L_paidAnew (l : Launch) (X : rb_X) (G : rb_G) (W : rb_I) (cn : Nat → Nat) (ag : Nat → Nat → Int32) (hG : xCS G cn ag) (u : Int32) (hI : xCI W cn) : rb_N l X yL_paidAnew (.codeWith yL_paidAnew cL_paidAnew 4 (some .int) [(0, 6, 9, 14)]) 8 135 12 72 [rbR (0, 0, 0), rbI u] (wI G W) (fun v9 G9 => v9 = some (rbI (lc (x7_paidAnew W cn u))) ∧ G9 = wI G (x7_paidAnew W cn u).2.2) := by
  refine rb_startW RL rfl (by decide +kernel) rfl (Nat.le_of_ble_eq_true rfl) ?_
  intro Φ C E T
  show rb_W Φ 0 0 0 [some (rbR (0, 0, 0)), some (rbI u), none, none] [] (wI G W)
  refine rb_aload_n C dL_paidAnew_0 rfl ?_
  refine rb_iload_n C dL_paidAnew_1 rfl ?_
  refine rb_callV C M_L_78 (fun l X => k_X7_paidAnew l X G W cn ag hG u hI) rfl (Nat.le_of_ble_eq_true rfl) rfl dL_paidAnew_2 rfl rfl rfl (Nat.le_of_ble_eq_true rfl) ⟨(Nat.le_of_ble_eq_true rfl), (Nat.le_of_ble_eq_true rfl)⟩ (Nat.le_of_ble_eq_true rfl) (Nat.le_of_ble_eq_true rfl) (fun v G' hp => ?_) (fun E9 G' hp => ?_)
  · obtain ⟨hf0, hv, e9⟩ := hp
    subst hv
    rw [e9]
    clear e9 G'
    refine rb_istore_n C dL_paidAnew_5 (Nat.le_of_ble_eq_true rfl) rfl (Lv' := [_, _, _, _]) rfl ?_
    refine rb_goto C 14 dL_paidAnew_6 (by decide) ?_
    refine rb_iload_n C dL_paidAnew_14 rfl ?_
    exact rb_iret C E dL_paidAnew_15 (Nat.le_of_ble_eq_true rfl) (Nat.le_of_ble_eq_true rfl) (⟨by rw [lc_0 hf0], rfl⟩)
  · obtain ⟨hx, e9⟩ := hp
    rw [e9]
    clear e9 G'
    rcases cd_paidAnew W cn u with h9 | h9
    · exact absurd (hx.symm.trans h9) (xc_0 E9)
    · obtain rfl := xc_i1 (hx.symm.trans h9)
      exact rb_catch7 C T E [] ⟨0, 6, 9, 14⟩ [] rfl (fun z hz => by cases hz) (by decide) (by decide) L_L_14 (by decide +kernel) (i := 3) (pc1 := 10) (pc2 := 13) (n := -7100) (v := -7100) (Or.inr ⟨dL_paidAnew_9, rfl, rfl⟩) dL_paidAnew_10 rfl dL_paidAnew_13 (by decide) (Nat.le_of_ble_eq_true rfl) (Nat.le_of_ble_eq_true rfl) (Nat.le_of_ble_eq_true rfl) ⟨by rw [lc_1 h9], rfl⟩

theorem cd_file (W : rb_I) (cn : Nat → Nat) (vi ho : Int32) : (x7_file W cn vi ho).1 = 0 ∨ (x7_file W cn vi ho).1 = 1 ∨ (x7_file W cn vi ho).1 = 3 := by
  unfold x7_file
  (repeat' split) <;> first | exact Or.inl rfl | exact Or.inr (Or.inl rfl) | exact Or.inr (Or.inr (rfl))
set_option maxRecDepth 100000 in
set_option maxHeartbeats 4000000 in
theorem k_L_file (l : Launch) (X : rb_X) (G : rb_G) (W : rb_I) (cn : Nat → Nat) (ag : Nat → Nat → Int32) (hG : xCS G cn ag) (vi ho : Int32) (hI : xCI W cn) : rb_N l X yL_file (.codeWith yL_file cL_file 5 (some .int) [(0, 7, 10, 14), (0, 7, 16, 26)]) 9 156 12 72 [rbR (0, 0, 0), rbI vi, rbI ho] (wI G W) (fun v9 G9 => v9 = some (rbI (lc (x7_file W cn vi ho))) ∧ G9 = wI G (x7_file W cn vi ho).2.2) := by
  refine rb_startW RL rfl (by decide +kernel) rfl (Nat.le_of_ble_eq_true rfl) ?_
  intro Φ C E T
  show rb_W Φ 0 0 0 [some (rbR (0, 0, 0)), some (rbI vi), some (rbI ho), none, none] [] (wI G W)
  refine rb_aload_n C dL_file_0 rfl ?_
  refine rb_iload_n C dL_file_1 rfl ?_
  refine rb_iload_n C dL_file_2 rfl ?_
  refine rb_callV C M_L_81 (fun l X => k_X7_file l X G W cn ag hG vi ho hI) rfl (Nat.le_of_ble_eq_true rfl) rfl dL_file_3 rfl rfl rfl (Nat.le_of_ble_eq_true rfl) ⟨(Nat.le_of_ble_eq_true rfl), (Nat.le_of_ble_eq_true rfl)⟩ (Nat.le_of_ble_eq_true rfl) (Nat.le_of_ble_eq_true rfl) (fun v G' hp => ?_) (fun E9 G' hp => ?_)
  · obtain ⟨hf0, hv, e9⟩ := hp
    subst hv
    rw [e9]
    clear e9 G'
    refine rb_istore_n C dL_file_6 (Nat.le_of_ble_eq_true rfl) rfl (Lv' := [_, _, _, _, _]) rfl ?_
    refine rb_goto C 22 dL_file_7 (by decide) ?_
    refine rb_iload_n C dL_file_22 rfl ?_
    exact rb_iret C E dL_file_23 (Nat.le_of_ble_eq_true rfl) (Nat.le_of_ble_eq_true rfl) (⟨by rw [lc_0 hf0], rfl⟩)
  · obtain ⟨hx, e9⟩ := hp
    rw [e9]
    clear e9 G'
    rcases cd_file W cn vi ho with h9 | h9 | h9
    · exact absurd (hx.symm.trans h9) (xc_0 E9)
    · obtain rfl := xc_i1 (hx.symm.trans h9)
      exact rb_catch7 C T E [] ⟨0, 7, 10, 14⟩ [⟨0, 7, 16, 26⟩] rfl (fun z hz => by cases hz) (by decide) (by decide) L_L_14 (by decide +kernel) (i := 4) (pc1 := 12) (pc2 := 15) (n := -7100) (v := -7100) (Or.inl ⟨dL_file_10, rfl⟩) dL_file_12 rfl dL_file_15 (by decide) (Nat.le_of_ble_eq_true rfl) (Nat.le_of_ble_eq_true rfl) (Nat.le_of_ble_eq_true rfl) ⟨by rw [lc_1 h9], rfl⟩
    · obtain rfl := xc_i3 (hx.symm.trans h9)
      exact rb_catch7 C T E [⟨0, 7, 10, 14⟩] ⟨0, 7, 16, 26⟩ [] rfl (fun z hz => by
        simp only [List.mem_cons, List.not_mem_nil, or_false] at hz
        subst hz
        exact ⟨by decide, _, L_L_14, by decide +kernel⟩) (by decide) (by decide) L_L_26 (by decide +kernel) (i := 4) (pc1 := 18) (pc2 := 21) (n := -7300) (v := -7300) (Or.inl ⟨dL_file_16, rfl⟩) dL_file_18 rfl dL_file_21 (by decide) (Nat.le_of_ble_eq_true rfl) (Nat.le_of_ble_eq_true rfl) (Nat.le_of_ble_eq_true rfl) ⟨by rw [lc_3 h9], rfl⟩

theorem cd_deliver (W : rb_I) (cn : Nat → Nat) (vi ho fl : Int32) : (x7_deliver W cn vi ho fl).1 = 0 ∨ (x7_deliver W cn vi ho fl).1 = 1 := by
  unfold x7_deliver
  (repeat' split) <;> first | exact Or.inl rfl | exact Or.inr (rfl)
set_option maxRecDepth 100000 in
set_option maxHeartbeats 4000000 in
theorem k_L_deliver (l : Launch) (X : rb_X) (G : rb_G) (W : rb_I) (cn : Nat → Nat) (ag : Nat → Nat → Int32) (hG : xCS G cn ag) (vi ho fl : Int32) (hI : xCI W cn) : rb_N l X yL_deliver (.codeWith yL_deliver cL_deliver 6 (some .int) [(0, 9, 12, 14)]) 9 157 12 72 [rbR (0, 0, 0), rbI vi, rbI ho, rbI fl] (wI G W) (fun v9 G9 => v9 = some (rbI (lc (x7_deliver W cn vi ho fl))) ∧ G9 = wI G (x7_deliver W cn vi ho fl).2.2) := by
  refine rb_startW RL rfl (by decide +kernel) rfl (Nat.le_of_ble_eq_true rfl) ?_
  intro Φ C E T
  show rb_W Φ 0 0 0 [some (rbR (0, 0, 0)), some (rbI vi), some (rbI ho), some (rbI fl), none, none] [] (wI G W)
  refine rb_aload_n C dL_deliver_0 rfl ?_
  refine rb_iload_n C dL_deliver_1 rfl ?_
  refine rb_iload_n C dL_deliver_2 rfl ?_
  refine rb_iload_n C dL_deliver_3 rfl ?_
  refine rb_callV C M_L_84 (fun l X => k_X7_deliver l X G W cn ag hG vi ho fl hI) rfl (Nat.le_of_ble_eq_true rfl) rfl dL_deliver_4 rfl rfl rfl (Nat.le_of_ble_eq_true rfl) ⟨(Nat.le_of_ble_eq_true rfl), (Nat.le_of_ble_eq_true rfl)⟩ (Nat.le_of_ble_eq_true rfl) (Nat.le_of_ble_eq_true rfl) (fun v G' hp => ?_) (fun E9 G' hp => ?_)
  · obtain ⟨hf0, hv, e9⟩ := hp
    subst hv
    rw [e9]
    clear e9 G'
    refine rb_istore C dL_deliver_7 (Nat.le_of_ble_eq_true rfl) rfl (Lv' := [_, _, _, _, _, _]) rfl ?_
    refine rb_goto C 18 dL_deliver_9 (by decide) ?_
    refine rb_iload C dL_deliver_18 rfl ?_
    exact rb_iret C E dL_deliver_20 (Nat.le_of_ble_eq_true rfl) (Nat.le_of_ble_eq_true rfl) (⟨by rw [lc_0 hf0], rfl⟩)
  · obtain ⟨hx, e9⟩ := hp
    rw [e9]
    clear e9 G'
    rcases cd_deliver W cn vi ho fl with h9 | h9
    · exact absurd (hx.symm.trans h9) (xc_0 E9)
    · obtain rfl := xc_i1 (hx.symm.trans h9)
      exact rb_catch7 C T E [] ⟨0, 9, 12, 14⟩ [] rfl (fun z hz => by cases hz) (by decide) (by decide) L_L_14 (by decide +kernel) (i := 5) (pc1 := 14) (pc2 := 17) (n := -7100) (v := -7100) (Or.inl ⟨dL_deliver_12, rfl⟩) dL_deliver_14 rfl dL_deliver_17 (by decide) (Nat.le_of_ble_eq_true rfl) (Nat.le_of_ble_eq_true rfl) (Nat.le_of_ble_eq_true rfl) ⟨by rw [lc_1 h9], rfl⟩

theorem cd_owes (W : rb_I) (cn : Nat → Nat) (ag : Nat → Nat → Int32) (ho vi : Int32) : (x7_owes W cn ag ho vi).1 = 0 ∨ (x7_owes W cn ag ho vi).1 = 1 := by
  unfold x7_owes
  (repeat' split) <;> first | exact Or.inl rfl | exact Or.inr (rfl)
set_option maxRecDepth 100000 in
set_option maxHeartbeats 4000000 in
theorem k_L_owes (l : Launch) (X : rb_X) (G : rb_G) (W : rb_I) (cn : Nat → Nat) (ag : Nat → Nat → Int32) (hG : xCS G cn ag) (ho vi : Int32) (hI : xCI W cn) : rb_N l X yL_owes (.codeWith yL_owes cL_owes 5 (some .int) [(0, 7, 10, 14)]) 9 155 12 72 [rbR (0, 0, 0), rbI ho, rbI vi] (wI G W) (fun v9 G9 => v9 = some (rbI (lc (x7_owes W cn ag ho vi))) ∧ G9 = wI G (x7_owes W cn ag ho vi).2.2) := by
  refine rb_startW RL rfl (by decide +kernel) rfl (Nat.le_of_ble_eq_true rfl) ?_
  intro Φ C E T
  show rb_W Φ 0 0 0 [some (rbR (0, 0, 0)), some (rbI ho), some (rbI vi), none, none] [] (wI G W)
  refine rb_aload_n C dL_owes_0 rfl ?_
  refine rb_iload_n C dL_owes_1 rfl ?_
  refine rb_iload_n C dL_owes_2 rfl ?_
  refine rb_callV C M_L_87 (fun l X => k_X7_owes l X G W cn ag hG ho vi hI) rfl (Nat.le_of_ble_eq_true rfl) rfl dL_owes_3 rfl rfl rfl (Nat.le_of_ble_eq_true rfl) ⟨(Nat.le_of_ble_eq_true rfl), (Nat.le_of_ble_eq_true rfl)⟩ (Nat.le_of_ble_eq_true rfl) (Nat.le_of_ble_eq_true rfl) (fun v G' hp => ?_) (fun E9 G' hp => ?_)
  · obtain ⟨hf0, hv, e9⟩ := hp
    subst hv
    rw [e9]
    clear e9 G'
    refine rb_istore_n C dL_owes_6 (Nat.le_of_ble_eq_true rfl) rfl (Lv' := [_, _, _, _, _]) rfl ?_
    refine rb_goto C 16 dL_owes_7 (by decide) ?_
    refine rb_iload_n C dL_owes_16 rfl ?_
    exact rb_iret C E dL_owes_17 (Nat.le_of_ble_eq_true rfl) (Nat.le_of_ble_eq_true rfl) (⟨by rw [lc_0 hf0], rfl⟩)
  · obtain ⟨hx, e9⟩ := hp
    rw [e9]
    clear e9 G'
    rcases cd_owes W cn ag ho vi with h9 | h9
    · exact absurd (hx.symm.trans h9) (xc_0 E9)
    · obtain rfl := xc_i1 (hx.symm.trans h9)
      exact rb_catch7 C T E [] ⟨0, 7, 10, 14⟩ [] rfl (fun z hz => by cases hz) (by decide) (by decide) L_L_14 (by decide +kernel) (i := 4) (pc1 := 12) (pc2 := 15) (n := -7100) (v := -7100) (Or.inl ⟨dL_owes_10, rfl⟩) dL_owes_12 rfl dL_owes_15 (by decide) (Nat.le_of_ble_eq_true rfl) (Nat.le_of_ble_eq_true rfl) (Nat.le_of_ble_eq_true rfl) ⟨by rw [lc_1 h9], rfl⟩

theorem cd_owesAnew (W : rb_I) (cn : Nat → Nat) (ag : Nat → Nat → Int32) (ho vi : Int32) : (x7_owesAnew W cn ag ho vi).1 = 0 ∨ (x7_owesAnew W cn ag ho vi).1 = 1 := by
  unfold x7_owesAnew
  (repeat' split) <;> first | exact Or.inl rfl | exact Or.inr (rfl)
set_option maxRecDepth 100000 in
set_option maxHeartbeats 4000000 in
theorem k_L_owesAnew (l : Launch) (X : rb_X) (G : rb_G) (W : rb_I) (cn : Nat → Nat) (ag : Nat → Nat → Int32) (hG : xCS G cn ag) (ho vi : Int32) (hI : xCI W cn) (hT : ∀ k, vp_in (W (8, k, 0) 2) 100) : rb_N l X yL_owesAnew (.codeWith yL_owesAnew cL_owesAnew 5 (some .int) [(0, 7, 10, 14)]) 9 155 12 72 [rbR (0, 0, 0), rbI ho, rbI vi] (wI G W) (fun v9 G9 => v9 = some (rbI (lc (x7_owesAnew W cn ag ho vi))) ∧ G9 = wI G (x7_owesAnew W cn ag ho vi).2.2) := by
  refine rb_startW RL rfl (by decide +kernel) rfl (Nat.le_of_ble_eq_true rfl) ?_
  intro Φ C E T
  show rb_W Φ 0 0 0 [some (rbR (0, 0, 0)), some (rbI ho), some (rbI vi), none, none] [] (wI G W)
  refine rb_aload_n C dL_owesAnew_0 rfl ?_
  refine rb_iload_n C dL_owesAnew_1 rfl ?_
  refine rb_iload_n C dL_owesAnew_2 rfl ?_
  refine rb_callV C M_L_90 (fun l X => k_X7_owesAnew l X G W cn ag hG ho vi hI hT) rfl (Nat.le_of_ble_eq_true rfl) rfl dL_owesAnew_3 rfl rfl rfl (Nat.le_of_ble_eq_true rfl) ⟨(Nat.le_of_ble_eq_true rfl), (Nat.le_of_ble_eq_true rfl)⟩ (Nat.le_of_ble_eq_true rfl) (Nat.le_of_ble_eq_true rfl) (fun v G' hp => ?_) (fun E9 G' hp => ?_)
  · obtain ⟨hf0, hv, e9⟩ := hp
    subst hv
    rw [e9]
    clear e9 G'
    refine rb_istore_n C dL_owesAnew_6 (Nat.le_of_ble_eq_true rfl) rfl (Lv' := [_, _, _, _, _]) rfl ?_
    refine rb_goto C 16 dL_owesAnew_7 (by decide) ?_
    refine rb_iload_n C dL_owesAnew_16 rfl ?_
    exact rb_iret C E dL_owesAnew_17 (Nat.le_of_ble_eq_true rfl) (Nat.le_of_ble_eq_true rfl) (⟨by rw [lc_0 hf0], rfl⟩)
  · obtain ⟨hx, e9⟩ := hp
    rw [e9]
    clear e9 G'
    rcases cd_owesAnew W cn ag ho vi with h9 | h9
    · exact absurd (hx.symm.trans h9) (xc_0 E9)
    · obtain rfl := xc_i1 (hx.symm.trans h9)
      exact rb_catch7 C T E [] ⟨0, 7, 10, 14⟩ [] rfl (fun z hz => by cases hz) (by decide) (by decide) L_L_14 (by decide +kernel) (i := 4) (pc1 := 12) (pc2 := 15) (n := -7100) (v := -7100) (Or.inl ⟨dL_owesAnew_10, rfl⟩) dL_owesAnew_12 rfl dL_owesAnew_15 (by decide) (Nat.le_of_ble_eq_true rfl) (Nat.le_of_ble_eq_true rfl) (Nat.le_of_ble_eq_true rfl) ⟨by rw [lc_1 h9], rfl⟩

theorem cd_recorded (W : rb_I) (cn : Nat → Nat) (vi ho what : Int32) : (x7_recorded W cn vi ho what).1 = 0 ∨ (x7_recorded W cn vi ho what).1 = 1 ∨ (x7_recorded W cn vi ho what).1 = 2 := by
  unfold x7_recorded
  (repeat' split) <;> first | exact Or.inl rfl | exact Or.inr (Or.inl rfl) | exact Or.inr (Or.inr (rfl))
set_option maxRecDepth 100000 in
set_option maxHeartbeats 4000000 in
theorem k_L_recorded (l : Launch) (X : rb_X) (G : rb_G) (W : rb_I) (cn : Nat → Nat) (ag : Nat → Nat → Int32) (hG : xCS G cn ag) (vi ho what : Int32) (hI : xCI W cn) : rb_N l X yL_recorded (.codeWith yL_recorded cL_recorded 6 (some .int) [(0, 9, 12, 14), (0, 9, 18, 16)]) 9 157 12 72 [rbR (0, 0, 0), rbI vi, rbI ho, rbI what] (wI G W) (fun v9 G9 => v9 = some (rbI (lc (x7_recorded W cn vi ho what))) ∧ G9 = wI G (x7_recorded W cn vi ho what).2.2) := by
  refine rb_startW RL rfl (by decide +kernel) rfl (Nat.le_of_ble_eq_true rfl) ?_
  intro Φ C E T
  show rb_W Φ 0 0 0 [some (rbR (0, 0, 0)), some (rbI vi), some (rbI ho), some (rbI what), none, none] [] (wI G W)
  refine rb_aload_n C dL_recorded_0 rfl ?_
  refine rb_iload_n C dL_recorded_1 rfl ?_
  refine rb_iload_n C dL_recorded_2 rfl ?_
  refine rb_iload_n C dL_recorded_3 rfl ?_
  refine rb_callV C M_L_93 (fun l X => k_X7_recorded l X G W cn ag hG vi ho what hI) rfl (Nat.le_of_ble_eq_true rfl) rfl dL_recorded_4 rfl rfl rfl (Nat.le_of_ble_eq_true rfl) ⟨(Nat.le_of_ble_eq_true rfl), (Nat.le_of_ble_eq_true rfl)⟩ (Nat.le_of_ble_eq_true rfl) (Nat.le_of_ble_eq_true rfl) (fun v G' hp => ?_) (fun E9 G' hp => ?_)
  · obtain ⟨hf0, hv, e9⟩ := hp
    subst hv
    rw [e9]
    clear e9 G'
    refine rb_istore C dL_recorded_7 (Nat.le_of_ble_eq_true rfl) rfl (Lv' := [_, _, _, _, _, _]) rfl ?_
    refine rb_goto C 24 dL_recorded_9 (by decide) ?_
    refine rb_iload C dL_recorded_24 rfl ?_
    exact rb_iret C E dL_recorded_26 (Nat.le_of_ble_eq_true rfl) (Nat.le_of_ble_eq_true rfl) (⟨by rw [lc_0 hf0], rfl⟩)
  · obtain ⟨hx, e9⟩ := hp
    rw [e9]
    clear e9 G'
    rcases cd_recorded W cn vi ho what with h9 | h9 | h9
    · exact absurd (hx.symm.trans h9) (xc_0 E9)
    · obtain rfl := xc_i1 (hx.symm.trans h9)
      exact rb_catch7 C T E [] ⟨0, 9, 12, 14⟩ [⟨0, 9, 18, 16⟩] rfl (fun z hz => by cases hz) (by decide) (by decide) L_L_14 (by decide +kernel) (i := 5) (pc1 := 14) (pc2 := 17) (n := -7100) (v := -7100) (Or.inl ⟨dL_recorded_12, rfl⟩) dL_recorded_14 rfl dL_recorded_17 (by decide) (Nat.le_of_ble_eq_true rfl) (Nat.le_of_ble_eq_true rfl) (Nat.le_of_ble_eq_true rfl) ⟨by rw [lc_1 h9], rfl⟩
    · obtain rfl := xc_i2 (hx.symm.trans h9)
      exact rb_catch7 C T E [⟨0, 9, 12, 14⟩] ⟨0, 9, 18, 16⟩ [] rfl (fun z hz => by
        simp only [List.mem_cons, List.not_mem_nil, or_false] at hz
        subst hz
        exact ⟨by decide, _, L_L_14, by decide +kernel⟩) (by decide) (by decide) L_L_16 (by decide +kernel) (i := 5) (pc1 := 20) (pc2 := 23) (n := -7200) (v := -7200) (Or.inl ⟨dL_recorded_18, rfl⟩) dL_recorded_20 rfl dL_recorded_23 (by decide) (Nat.le_of_ble_eq_true rfl) (Nat.le_of_ble_eq_true rfl) (Nat.le_of_ble_eq_true rfl) ⟨by rw [lc_2 h9], rfl⟩

theorem cd_pass (W : rb_I) (cn : Nat → Nat) (mins : Int32) (t : Nat) : (x7_pass W cn mins t).1 = 0 ∨ (x7_pass W cn mins t).1 = 2 ∨ (x7_pass W cn mins t).1 = 3 := by
  unfold x7_pass
  (repeat' split) <;> first | exact Or.inl rfl | exact Or.inr (Or.inl rfl) | exact Or.inr (Or.inr (rfl))
set_option maxRecDepth 100000 in
set_option maxHeartbeats 4000000 in
theorem k_L_pass (l : Launch) (X : rb_X) (G : rb_G) (W : rb_I) (cn : Nat → Nat) (ag : Nat → Nat → Int32) (hG : xCS G cn ag) (mins : Int32) (t : Nat) (hI : xCI W cn) (ht : t < 1000000) (hmn : W (0, 0, 0) 6 = nI t) : rb_N l X yL_pass (.codeWith yL_pass cL_pass 4 (some .int) [(0, 6, 9, 16), (0, 6, 14, 26)]) 8 168 12 72 [rbR (0, 0, 0), rbI mins] (wI G W) (fun v9 G9 => v9 = some (rbI (lc (x7_pass W cn mins t))) ∧ G9 = wI G (x7_pass W cn mins t).2.2) := by
  refine rb_startW RL rfl (by decide +kernel) rfl (Nat.le_of_ble_eq_true rfl) ?_
  intro Φ C E T
  show rb_W Φ 0 0 0 [some (rbR (0, 0, 0)), some (rbI mins), none, none] [] (wI G W)
  refine rb_aload_n C dL_pass_0 rfl ?_
  refine rb_iload_n C dL_pass_1 rfl ?_
  refine rb_callV C M_L_96 (fun l X => k_X7_pass l X G W cn ag hG mins t hI ht hmn) rfl (Nat.le_of_ble_eq_true rfl) rfl dL_pass_2 rfl rfl rfl (Nat.le_of_ble_eq_true rfl) ⟨(Nat.le_of_ble_eq_true rfl), (Nat.le_of_ble_eq_true rfl)⟩ (Nat.le_of_ble_eq_true rfl) (Nat.le_of_ble_eq_true rfl) (fun v G' hp => ?_) (fun E9 G' hp => ?_)
  · obtain ⟨hf0, hv, e9⟩ := hp
    subst hv
    rw [e9]
    clear e9 G'
    refine rb_istore_n C dL_pass_5 (Nat.le_of_ble_eq_true rfl) rfl (Lv' := [_, _, _, _]) rfl ?_
    refine rb_goto C 19 dL_pass_6 (by decide) ?_
    refine rb_iload_n C dL_pass_19 rfl ?_
    exact rb_iret C E dL_pass_20 (Nat.le_of_ble_eq_true rfl) (Nat.le_of_ble_eq_true rfl) (⟨by rw [lc_0 hf0], rfl⟩)
  · obtain ⟨hx, e9⟩ := hp
    rw [e9]
    clear e9 G'
    rcases cd_pass W cn mins t with h9 | h9 | h9
    · exact absurd (hx.symm.trans h9) (xc_0 E9)
    · obtain rfl := xc_i2 (hx.symm.trans h9)
      exact rb_catch7 C T E [] ⟨0, 6, 9, 16⟩ [⟨0, 6, 14, 26⟩] rfl (fun z hz => by cases hz) (by decide) (by decide) L_L_16 (by decide +kernel) (i := 3) (pc1 := 10) (pc2 := 13) (n := -7200) (v := -7200) (Or.inr ⟨dL_pass_9, rfl, rfl⟩) dL_pass_10 rfl dL_pass_13 (by decide) (Nat.le_of_ble_eq_true rfl) (Nat.le_of_ble_eq_true rfl) (Nat.le_of_ble_eq_true rfl) ⟨by rw [lc_2 h9], rfl⟩
    · obtain rfl := xc_i3 (hx.symm.trans h9)
      exact rb_catch7 C T E [⟨0, 6, 9, 16⟩] ⟨0, 6, 14, 26⟩ [] rfl (fun z hz => by
        simp only [List.mem_cons, List.not_mem_nil, or_false] at hz
        subst hz
        exact ⟨by decide, _, L_L_16, by decide +kernel⟩) (by decide) (by decide) L_L_26 (by decide +kernel) (i := 3) (pc1 := 15) (pc2 := 18) (n := -7300) (v := -7300) (Or.inr ⟨dL_pass_14, rfl, rfl⟩) dL_pass_15 rfl dL_pass_18 (by decide) (Nat.le_of_ble_eq_true rfl) (Nat.le_of_ble_eq_true rfl) (Nat.le_of_ble_eq_true rfl) ⟨by rw [lc_3 h9], rfl⟩

