/-! heap rows -/
theorem rb_P.upd {X : rb_X} {ad : rb_R → Nat} {A : Nat → Prop} {G G' : rb_G} {H H1 : Heap} {r : rb_R} (hP : rb_P X ad A G H) (hr : gD G r) (hk : rb_k r.1 < 20) (he : va_at X.1 vwCl (ad r, rb_e ad X.2.1 G' r) H1) (oq : ∀ q : Nat, q ≠ ad r → H1[q]? = H[q]?) (hD : gD G' = gD G)
    (hs : ∀ r', r' ≠ r → rb_e ad X.2.1 G' r' = rb_e ad X.2.1 G r') (hcl : ∀ r1 k r2, gD G r1 → gP G' r1 k = some r2 → gD G r2) : rb_P X ad A G' H1 := by
  obtain ⟨h1, h2, h3, h4, h5⟩ := hP
  refine ⟨fun r' hr' hk' => ?_, fun r1 r2 a b => ?_, fun r1 k r2 a b => ?_, h4, h5⟩
  · rw [hD] at hr'
    obtain ⟨g1, g2⟩ := h1 r' hr' hk'
    refine ⟨g1, ?_⟩
    by_cases e : r' = r
    · subst e; exact he
    · rw [hs r' e]
      exact g2.kept (oq _ fun q => e (h2 r' r hr' hr hk' hk q))
  · rw [hD] at a b
    exact h2 r1 r2 a b
  · rw [hD] at a ⊢
    exact hcl r1 k r2 a b
theorem rb_e_sI {ad : rb_R → Nat} {cA : Nat → ClassId} {G : rb_G} {r : rb_R} {k : Nat} {v : Int32} {r' : rb_R} (h : r' ≠ r) : rb_e ad cA (sI G r k v) r' = rb_e ad cA G r' := by
  have e : gI (sI G r k v) r' = gI G r' := by funext j; exact up2_n _ _ _ _ (fun q => h q.1)
  unfold rb_e
  rw [e]
  rfl
theorem rb_e_sP {ad : rb_R → Nat} {cA : Nat → ClassId} {G : rb_G} {r : rb_R} {k : Nat} {v : Option rb_R} {r' : rb_R} (h : r' ≠ r) : rb_e ad cA (sP G r k v) r' = rb_e ad cA G r' := by
  have e : gP (sP G r k v) r' = gP G r' := by funext j; exact up2_n _ _ _ _ (fun q => h q.1)
  unfold rb_e
  rw [e]
  rfl
theorem rb_e_sJ {ad : rb_R → Nat} {cA : Nat → ClassId} {G : rb_G} {r : rb_R} {k : Nat} {v : Int64} {r' : rb_R} (h : r' ≠ r) : rb_e ad cA (sJ G r k v) r' = rb_e ad cA G r' := by
  have e : gJ (sJ G r k v) r' = gJ G r' := by funext j; exact up2_n _ _ _ _ (fun q => h q.1)
  unfold rb_e
  rw [e]
  rfl
theorem rb_cl_sP {G : rb_G} {r : rb_R} {k0 : Nat} {o : Option rb_R} (h3 : ∀ r1 k r2, gD G r1 → gP G r1 k = some r2 → gD G r2) (ho : ∀ r', o = some r' → gD G r') : ∀ r1 k r2, gD G r1 → gP (sP G r k0 o) r1 k = some r2 → gD G r2 := by
  intro r1 k r2 a b
  have b' : up2 (gP G) r k0 o r1 k = some r2 := b
  unfold up2 at b'
  split at b'
  · exact ho r2 b'
  · exact h3 r1 k r2 a b'
theorem rb_ok_o {G : rb_G} {o : Option rb_R} (h : rb_ok G (rbO o)) : ∀ r', o = some r' → gD G r' := fun r' e => h r' (by rw [e])
/-- a field: by its pool number, its class's number in vwCl, its place, whether a reference, whether final, its type -/
def rb_Fld (own : String) (idx ci k : Nat) (b fin : Bool) (ty : FieldType) : Prop := ∃ (RC : String) (TT : u_T) (N : Nat) (ty0 : Nat → FieldType), vwCl[ci]? = some (RC, TT, N) ∧ (∀ w ∈ u_ws RC TT N, w ∈ TS) ∧ k < N ∧ (rb_lay ci)[k]? = some b ∧ ci < 10 ∧
  Cond.fieldLink own idx (TT k).1 (TT k).2.1 (TT k).2.2.1 ∈ TS ∧ (∀ k, k < N → parseFieldDescriptor (TT k).2.2.1 = some (ty0 k)) ∧ (∀ a, a < N → ∀ b, b < N → a ≠ b → (TT a).2.1 ≠ (TT b).2.1) ∧ parseFieldDescriptor (TT k).2.2.1 = some ty ∧ (TT k).2.2.2 = fin ∧ (fin = true → (TT k).1 = own)
/-- .. to be read alone -/
def rb_FldR (own : String) (idx ci k : Nat) (b : Bool) : Prop := ∃ (RC : String) (TT : u_T) (N : Nat), vwCl[ci]? = some (RC, TT, N) ∧ (∀ w ∈ u_ws RC TT N, w ∈ TS) ∧ k < N ∧ (rb_lay ci)[k]? = some b ∧ ci < 10 ∧ Cond.fieldLink own idx (TT k).1 (TT k).2.1 (TT k).2.2.1 ∈ TS
theorem rb_Fld.r {own : String} {idx ci k : Nat} {b fin : Bool} {ty : FieldType} (h : rb_Fld own idx ci k b fin ty) : rb_FldR own idx ci k b := by
  obtain ⟨RC, TT, N, ty0, h1, h2, h3, h4, h5, h6, -⟩ := h
  exact ⟨RC, TT, N, h1, h2, h3, h4, h5, h6⟩
def rb_rt (ty : FieldType) : Bool := match ty with
  | .object _ => true
  | .array _ => true
  | _ => false
theorem rb_rt_fit {ty : FieldType} (h : rb_rt ty = true) (o : Option Nat) : narrow ty (va_rf o) = va_rf o ∧ fits ty (va_rf o) = true := by
  cases ty <;> first | (simp [rb_rt] at h; done) | (cases o <;> exact ⟨rfl, rfl⟩)
section
variable {Φ : rb_F} {own : String} {cc : ByteArray} {nL fr lo mc ms cells slots pc : Nat} {Lv Lv' : List (Option rb_V)} {st : List rb_V} {G : rb_G}
theorem rb_eo {ad : rb_R → Nat} {cA : Nat → ClassId} {G : rb_G} {r : rb_R} {ci : Nat} (hk : rb_k r.1 = ci) (h : ci < 10) : rb_e ad cA G r = .inr (ci, rb_vals (rb_c ad) (rb_lay ci) 0 (gI G r) (gP G r)) := by
  unfold rb_e
  rw [hk, if_pos h]
theorem rb_eI {ad : rb_R → Nat} {cA : Nat → ClassId} {G : rb_G} {r : rb_R} {ci : Nat} (hk : rb_k r.1 = ci) (h : ¬ ci < 10) (h2 : ci < 12) : rb_e ad cA G r = .inl (cA ci, gN G r, .inl (gI G r)) := by
  unfold rb_e
  rw [hk, if_neg h, if_pos h2]
theorem rb_eL {ad : rb_R → Nat} {cA : Nat → ClassId} {G : rb_G} {r : rb_R} (hk : rb_k r.1 = 12) : rb_e ad cA G r = .inl (cA 12, gN G r, .inr (.inl (gJ G r))) := by
  unfold rb_e
  rw [hk]
  rfl
theorem rb_eP {ad : rb_R → Nat} {cA : Nat → ClassId} {G : rb_G} {r : rb_R} {ci : Nat} (hk : rb_k r.1 = ci) (h : 12 < ci) : rb_e ad cA G r = .inl (cA ci, gN G r, .inr (.inr (.inr (.inr (fun j => (gP G r j).map ad))))) := by
  unfold rb_e
  rw [hk, if_neg (by omega), if_neg (by omega), if_neg (by omega)]
theorem rb_one {D : va_G} {cl : List vw_C} {q : Nat × va_E} {H : Heap} (h : va_at D cl q H) : va_P D cl [q] H := by
  intro k x hx
  cases k with
  | zero => cases hx; exact h
  | succ k => simp at hx
theorem rb_getI (C : rb_C Φ own cc nL fr lo mc ms) {r : rb_R} {idx ci k : Nat} (F : rb_FldR own idx ci k false) (hd : decode cc pc = .ok (.getfield idx, 3)) (hk : rb_k r.1 = ci) (kk : rb_W Φ cells slots (pc + 3) Lv (rbI (gI G r k) :: st) G) : rb_W Φ cells slots pc Lv (rbR r :: st) G := by
  obtain ⟨p, l, e, R, s, m, args, below, meth, c, Q, X, A, ad0, G0⟩ := Φ
  intro ad H locs ls hP hn hS hl ho hv
  obtain ⟨RC, TT, N, hc, hin, hkN, hb, hci, hlk⟩ := F
  have hr := ho.hd r rfl
  obtain ⟨-, hat⟩ := hP.1 r hr (by rw [hk]; omega)
  rw [rb_eo hk hci] at hat
  refine va_get (C := RC) (T := TT) (N := N) (ci := ci) C.1 C.2.1 C.2.2.2.2.1 hin C.2.2.2.1 C.2.2.2.2.2.2.2.2.1.1 (rb_one hat) 0 rfl hc k hkN (C.2.2.2.2.1 _ hlk) (fun _ h => h) (v := .int (gI G r k)) ?_ hd (kk ad H locs ls hP hn hS hl (ho.tl.cons (rb_ok_i _ _)) hv)
  rw [rb_vals_get, hb, Nat.zero_add]
  rfl
theorem rb_getP (C : rb_C Φ own cc nL fr lo mc ms) {r : rb_R} {idx ci k : Nat} (F : rb_FldR own idx ci k true) (hd : decode cc pc = .ok (.getfield idx, 3)) (hk : rb_k r.1 = ci) {o : Option rb_R} (hv0 : gP G r k = o) (kk : rb_W Φ cells slots (pc + 3) Lv (rbO o :: st) G) : rb_W Φ cells slots pc Lv (rbR r :: st) G := by
  subst hv0
  obtain ⟨p, l, e, R, s, m, args, below, meth, c, Q, X, A, ad0, G0⟩ := Φ
  intro ad H locs ls hP hn hS hl ho hv
  obtain ⟨RC, TT, N, hc, hin, hkN, hb, hci, hlk⟩ := F
  have hr := ho.hd r rfl
  obtain ⟨-, hat⟩ := hP.1 r hr (by rw [hk]; omega)
  rw [rb_eo hk hci] at hat
  refine va_get (C := RC) (T := TT) (N := N) (ci := ci) C.1 C.2.1 C.2.2.2.2.1 hin C.2.2.2.1 C.2.2.2.2.2.2.2.2.1.1 (rb_one hat) 0 rfl hc k hkN (C.2.2.2.2.1 _ hlk) (fun _ h => h) (v := rb_c ad (rbO (gP G r k))) ?_ hd (kk ad H locs ls hP hn hS hl (ho.tl.cons (fun r' e => hP.2.2.1 r k r' hr (by cases hq : gP G r k with | none => rw [hq] at e; cases e | some z => rw [hq] at e; cases e; rfl))) hv)
  rw [rb_vals_get, hb, Nat.zero_add]
  rfl
theorem rb_putI (C : rb_C Φ own cc nL fr lo mc ms) {r : rb_R} {v : Int32} {idx ci k : Nat} {ty : FieldType} (F : rb_Fld own idx ci k false false ty) (hd : decode cc pc = .ok (.putfield idx, 3)) (hk : rb_k r.1 = ci) (hnf : narrow ty (.int v) = .int v ∧ fits ty (.int v) = true) (kk : rb_W Φ cells slots (pc + 3) Lv st (sI G r k v)) : rb_W Φ cells slots pc Lv (rbI v :: rbR r :: st) G := by
  obtain ⟨p, l, e, R, s, m, args, below, meth, c, Q, X, A, ad0, G0⟩ := Φ
  intro ad H locs ls hP hn hS hl ho hv
  obtain ⟨RC, TT, N, ty0, hc, hin, hkN, hb, hci, hlk, hty, hnm, hd9, hf9, -⟩ := F
  have hr := ho.tl.hd r rfl
  have hk20 : rb_k r.1 < 20 := by rw [hk]; omega
  obtain ⟨hAr, hat⟩ := hP.1 r hr hk20
  rw [rb_eo hk hci] at hat
  obtain ⟨r9, h1, cell, q1, q2, q3, q4⟩ := hat
  cases Option.some.inj (h1.symm.trans hc)
  obtain ⟨hS9, hfc, kC, hkC, hkind⟩ := C.2.2.2.2.2.2.2.2.1.1.1 ci _ hc
  obtain ⟨cf, kf, fi, f, hi, hsl⟩ := hS9 k hkN
  have hap := va_apart (own := own) C.2.2.2.2.1 hin ty0 hty hnm C.2.2.2.2.2.2.2.2.1.1 hc
  have hlay := C.2.2.2.2.1 _ (hin _ (u_in_lay hkN))
  unfold u_lay at hlay
  rw [if_neg (by rw [hf9]; decide)] at hlay
  have hst := (u_facts hfc hkC (u_lays C.2.2.2.2.1 hin hkN) hi).1
  have h6 := u_store hfc hkC hkind hlay hi hd9 hnf.1 hnf.2
  refine W.putK C.1 C.2.1 (f := f) ⟨C.2.2.2.1, C.2.2.2.2.1 _ hlk, ⟨_, _, _, hi⟩, hst⟩ (by rw [q2]; exact h6) q1 q3 (by rw [hsl]; exact k2_hasslot (q4 k hkN)) rfl rfl hd fun H' e1 e2 e3 => ?_
  rw [hsl] at e1 ⊢
  have hlen : k < (rb_vals (rb_c ad) (rb_lay ci) 0 (gI G r) (gP G r)).length := by rw [rb_vals_len]; exact (List.getElem?_eq_some_iff.mp hb).1
  refine kk ad H' _ ls (hP.upd hr hk20 ?_ e3 rfl (fun r' h => rb_e_sI h) hP.2.2.1) hn (hS.put e2 e3 hAr) hl ho.tl.tl hv
  rw [rb_eo hk hci]
  refine ⟨_, hc, t_OB.to (V := updV (vp_V (rb_vals (rb_c ad) (rb_lay ci) 0 (gI G r) (gP G r))) k (.int v)) ⟨_, e1, q2, q3, t_set q4 hap hkN _⟩ (fun j _ => ?_)⟩
  rw [vp_updV_set hlen]
  exact congrArg (fun l => vp_V l j) (rb_vals_setI (rb_c ad) (gI G r) (gI (sI G r k v) r) (gP G r) (rb_lay ci) k v hb (up2_s _ _ _ _) (fun j hj => up2_n _ _ _ _ (fun q => hj q.2)))
theorem rb_putP (C : rb_C Φ own cc nL fr lo mc ms) {r : rb_R} {o : Option rb_R} {idx ci k : Nat} {ty : FieldType} (F : rb_Fld own idx ci k true false ty) (hd : decode cc pc = .ok (.putfield idx, 3)) (hk : rb_k r.1 = ci) (hrt : rb_rt ty = true) (kk : rb_W Φ cells slots (pc + 3) Lv st (sP G r k o)) : rb_W Φ cells slots pc Lv (rbO o :: rbR r :: st) G := by
  obtain ⟨p, l, e, R, s, m, args, below, meth, c, Q, X, A, ad0, G0⟩ := Φ
  intro ad H locs ls hP hn hS hl ho hv
  obtain ⟨RC, TT, N, ty0, hc, hin, hkN, hb, hci, hlk, hty, hnm, hd9, hf9, -⟩ := F
  have hr := ho.tl.hd r rfl
  have hk20 : rb_k r.1 < 20 := by rw [hk]; omega
  obtain ⟨hAr, hat⟩ := hP.1 r hr hk20
  rw [rb_eo hk hci] at hat
  obtain ⟨r9, h1, cell, q1, q2, q3, q4⟩ := hat
  cases Option.some.inj (h1.symm.trans hc)
  obtain ⟨hS9, hfc, kC, hkC, hkind⟩ := C.2.2.2.2.2.2.2.2.1.1.1 ci _ hc
  obtain ⟨cf, kf, fi, f, hi, hsl⟩ := hS9 k hkN
  have hap := va_apart (own := own) C.2.2.2.2.1 hin ty0 hty hnm C.2.2.2.2.2.2.2.2.1.1 hc
  have hlay := C.2.2.2.2.1 _ (hin _ (u_in_lay hkN))
  unfold u_lay at hlay
  rw [if_neg (by rw [hf9]; decide)] at hlay
  have hst := (u_facts hfc hkC (u_lays C.2.2.2.2.1 hin hkN) hi).1
  have hnf := rb_rt_fit hrt (o.map ad)
  have h6 := u_store hfc hkC hkind hlay hi hd9 hnf.1 hnf.2
  refine W.putK C.1 C.2.1 (f := f) (v := va_rf (o.map ad)) ⟨C.2.2.2.1, C.2.2.2.2.1 _ hlk, ⟨_, _, _, hi⟩, hst⟩ (by rw [q2]; exact h6) q1 q3 (by rw [hsl]; exact k2_hasslot (q4 k hkN)) rfl rfl hd fun H' e1 e2 e3 => ?_
  rw [hsl] at e1 ⊢
  have hlen : k < (rb_vals (rb_c ad) (rb_lay ci) 0 (gI G r) (gP G r)).length := by rw [rb_vals_len]; exact (List.getElem?_eq_some_iff.mp hb).1
  refine kk ad H' _ ls (hP.upd hr hk20 ?_ e3 rfl (fun r' h => rb_e_sP h) (rb_cl_sP hP.2.2.1 (rb_ok_o ho.hd))) hn (hS.put e2 e3 hAr) hl ho.tl.tl hv
  rw [rb_eo hk hci]
  refine ⟨_, hc, t_OB.to (V := updV (vp_V (rb_vals (rb_c ad) (rb_lay ci) 0 (gI G r) (gP G r))) k (va_rf (o.map ad))) ⟨_, e1, q2, q3, t_set q4 hap hkN _⟩ (fun j _ => ?_)⟩
  rw [vp_updV_set hlen]
  exact congrArg (fun l => vp_V l j) (rb_vals_setP (rb_c ad) (gI G r) (gP G r) (gP (sP G r k o) r) (rb_lay ci) k o hb (up2_s _ _ _ _) (fun j hj => up2_n _ _ _ _ (fun q => hj q.2)))
theorem rb_putFI (C : rb_C Φ own cc nL fr lo mc ms) (hin2 : rb_nm Φ "<init>") {r : rb_R} {v : Int32} {idx ci k : Nat} {ty : FieldType} (F : rb_Fld own idx ci k false true ty) (hd : decode cc pc = .ok (.putfield idx, 3)) (hk : rb_k r.1 = ci) (hnf : narrow ty (.int v) = .int v ∧ fits ty (.int v) = true) (kk : rb_W Φ cells slots (pc + 3) Lv st (sI G r k v)) : rb_W Φ cells slots pc Lv (rbI v :: rbR r :: st) G := by
  obtain ⟨p, l, e, R, s, m, args, below, meth, c, Q, X, A, ad0, G0⟩ := Φ
  intro ad H locs ls hP hn hS hl ho hv
  obtain ⟨RC, TT, N, ty0, hc, hin, hkN, hb, hci, hlk, hty, hnm, hd9, hf9, hdecl⟩ := F
  have hr := ho.tl.hd r rfl
  have hk20 : rb_k r.1 < 20 := by rw [hk]; omega
  obtain ⟨hAr, hat⟩ := hP.1 r hr hk20
  rw [rb_eo hk hci] at hat
  obtain ⟨r9, h1, cell, q1, q2, q3, q4⟩ := hat
  cases Option.some.inj (h1.symm.trans hc)
  obtain ⟨hS9, hfc, kC, hkC, hkind⟩ := C.2.2.2.2.2.2.2.2.1.1.1 ci _ hc
  obtain ⟨cf, kf, fi, f, hi, hsl⟩ := hS9 k hkN
  have hap := va_apart (own := own) C.2.2.2.2.1 hin ty0 hty hnm C.2.2.2.2.2.2.2.2.1.1 hc
  have hlay := C.2.2.2.2.1 _ (hin _ (u_in_lay hkN))
  unfold u_lay at hlay
  rw [if_pos hf9] at hlay
  have hst := (u_facts hfc hkC (u_lays C.2.2.2.2.1 hin hkN) hi).1
  have hcf : m.cls = cf := by
    obtain ⟨_, _, c', _, _, _, -, -, hf', -, -, -, hown2, -⟩ := Cond.laysFinal_spec hlay
    have e1 : c' = cf := by have := hi.symm.trans hf'; simp at this; exact this.1.symm
    rw [hdecl rfl] at hown2
    rw [← e1]; exact Option.some.inj (C.2.2.2.1.symm.trans hown2)
  have h6 := u_fits hfc hkC hkind (Or.inr hlay) hi hd9 hnf.1 hnf.2
  refine W.putFinK C.1 C.2.1 C.2.2.2.1 (C.2.2.2.2.1 _ hlk) hi hst hcf hin2 (by rw [q2]; exact h6) q1 q3 (by rw [hsl]; exact k2_hasslot (q4 k hkN)) rfl rfl hd fun H' e1 e2 e3 => ?_
  rw [hsl] at e1 ⊢
  have hlen : k < (rb_vals (rb_c ad) (rb_lay ci) 0 (gI G r) (gP G r)).length := by rw [rb_vals_len]; exact (List.getElem?_eq_some_iff.mp hb).1
  refine kk ad H' _ ls (hP.upd hr hk20 ?_ e3 rfl (fun r' h => rb_e_sI h) hP.2.2.1) hn (hS.put e2 e3 hAr) hl ho.tl.tl hv
  rw [rb_eo hk hci]
  refine ⟨_, hc, t_OB.to (V := updV (vp_V (rb_vals (rb_c ad) (rb_lay ci) 0 (gI G r) (gP G r))) k (.int v)) ⟨_, e1, q2, q3, t_set q4 hap hkN _⟩ (fun j _ => ?_)⟩
  rw [vp_updV_set hlen]
  exact congrArg (fun l => vp_V l j) (rb_vals_setI (rb_c ad) (gI G r) (gI (sI G r k v) r) (gP G r) (rb_lay ci) k v hb (up2_s _ _ _ _) (fun j hj => up2_n _ _ _ _ (fun q => hj q.2)))
theorem rb_putFP (C : rb_C Φ own cc nL fr lo mc ms) (hin2 : rb_nm Φ "<init>") {r : rb_R} {o : Option rb_R} {idx ci k : Nat} {ty : FieldType} (F : rb_Fld own idx ci k true true ty) (hd : decode cc pc = .ok (.putfield idx, 3)) (hk : rb_k r.1 = ci) (hrt : rb_rt ty = true) (kk : rb_W Φ cells slots (pc + 3) Lv st (sP G r k o)) : rb_W Φ cells slots pc Lv (rbO o :: rbR r :: st) G := by
  obtain ⟨p, l, e, R, s, m, args, below, meth, c, Q, X, A, ad0, G0⟩ := Φ
  intro ad H locs ls hP hn hS hl ho hv
  obtain ⟨RC, TT, N, ty0, hc, hin, hkN, hb, hci, hlk, hty, hnm, hd9, hf9, hdecl⟩ := F
  have hr := ho.tl.hd r rfl
  have hk20 : rb_k r.1 < 20 := by rw [hk]; omega
  obtain ⟨hAr, hat⟩ := hP.1 r hr hk20
  rw [rb_eo hk hci] at hat
  obtain ⟨r9, h1, cell, q1, q2, q3, q4⟩ := hat
  cases Option.some.inj (h1.symm.trans hc)
  obtain ⟨hS9, hfc, kC, hkC, hkind⟩ := C.2.2.2.2.2.2.2.2.1.1.1 ci _ hc
  obtain ⟨cf, kf, fi, f, hi, hsl⟩ := hS9 k hkN
  have hap := va_apart (own := own) C.2.2.2.2.1 hin ty0 hty hnm C.2.2.2.2.2.2.2.2.1.1 hc
  have hlay := C.2.2.2.2.1 _ (hin _ (u_in_lay hkN))
  unfold u_lay at hlay
  rw [if_pos hf9] at hlay
  have hst := (u_facts hfc hkC (u_lays C.2.2.2.2.1 hin hkN) hi).1
  have hcf : m.cls = cf := by
    obtain ⟨_, _, c', _, _, _, -, -, hf', -, -, -, hown2, -⟩ := Cond.laysFinal_spec hlay
    have e1 : c' = cf := by have := hi.symm.trans hf'; simp at this; exact this.1.symm
    rw [hdecl rfl] at hown2
    rw [← e1]; exact Option.some.inj (C.2.2.2.1.symm.trans hown2)
  have hnf := rb_rt_fit hrt (o.map ad)
  have h6 := u_fits hfc hkC hkind (Or.inr hlay) hi hd9 hnf.1 hnf.2
  refine W.putFinK C.1 C.2.1 (v := va_rf (o.map ad)) C.2.2.2.1 (C.2.2.2.2.1 _ hlk) hi hst hcf hin2 (by rw [q2]; exact h6) q1 q3 (by rw [hsl]; exact k2_hasslot (q4 k hkN)) rfl rfl hd fun H' e1 e2 e3 => ?_
  rw [hsl] at e1 ⊢
  have hlen : k < (rb_vals (rb_c ad) (rb_lay ci) 0 (gI G r) (gP G r)).length := by rw [rb_vals_len]; exact (List.getElem?_eq_some_iff.mp hb).1
  refine kk ad H' _ ls (hP.upd hr hk20 ?_ e3 rfl (fun r' h => rb_e_sP h) (rb_cl_sP hP.2.2.1 (rb_ok_o ho.hd))) hn (hS.put e2 e3 hAr) hl ho.tl.tl hv
  rw [rb_eo hk hci]
  refine ⟨_, hc, t_OB.to (V := updV (vp_V (rb_vals (rb_c ad) (rb_lay ci) 0 (gI G r) (gP G r))) k (va_rf (o.map ad))) ⟨_, e1, q2, q3, t_set q4 hap hkN _⟩ (fun j _ => ?_)⟩
  rw [vp_updV_set hlen]
  exact congrArg (fun l => vp_V l j) (rb_vals_setP (rb_c ad) (gI G r) (gP G r) (gP (sP G r k o) r) (rb_lay ci) k o hb (up2_s _ _ _ _) (fun j hj => up2_n _ _ _ _ (fun q => hj q.2)))
/-- arrays: reads -/
theorem rb_iald (C : rb_C Φ own cc nL fr lo mc ms) {r : rb_R} {i : Int32} (hd : decode cc pc = .ok (.iaload, 1)) (hk : rb_k r.1 = 10) (hi : vp_in i (gN G r)) (kk : rb_W Φ cells slots (pc + 1) Lv (rbI (gI G r i.toNatClampNeg) :: st) G) : rb_W Φ cells slots pc Lv (rbI i :: rbR r :: st) G := by
  obtain ⟨p, l, e, R, s, m, args, below, meth, c, Q, X, A, ad0, G0⟩ := Φ
  intro ad H locs ls hP hn hS hl ho hv
  obtain ⟨-, hat⟩ := hP.1 r (ho.tl.hd r rfl) (by rw [hk]; decide)
  rw [rb_eI hk (by decide) (by decide)] at hat
  exact va_iald C.1 C.2.1 C.2.2.2.2.2.2.2.2.1.1 (rb_one hat) 0 0 rfl rfl hi hd (kk ad H locs ls hP hn hS hl (ho.tl.tl.cons (rb_ok_i _ _)) hv)
/-- the places of the rows of references: number in rb_tys, component -/
def rb_cp (k : Nat) : String := if k = 13 then "java/lang/Object" else if k = 14 then RX5 else RX0
theorem rb_tys_q (cA : Nat → ClassId) {k : Nat} (h1 : 12 < k) (h2 : k < 16) : (rb_tys cA)[k - 12]? = some (cA k, .object (rb_cp k)) := by
  rcases (by omega : k = 13 ∨ k = 14 ∨ k = 15) with rfl | rfl | rfl <;> rfl
theorem rb_aald (C : rb_C Φ own cc nL fr lo mc ms) {r : rb_R} {i : Int32} {k : Nat} (hd : decode cc pc = .ok (.aaload, 1)) (hk : rb_k r.1 = k) (h1 : 12 < k) (h2 : k < 16) (hi : vp_in i (gN G r)) {o : Option rb_R} (hv0 : gP G r i.toNatClampNeg = o) (kk : rb_W Φ cells slots (pc + 1) Lv (rbO o :: st) G) : rb_W Φ cells slots pc Lv (rbI i :: rbR r :: st) G := by
  subst hv0
  obtain ⟨p, l, e, R, s, m, args, below, meth, c, Q, X, A, ad0, G0⟩ := Φ
  intro ad H locs ls hP hn hS hl ho hv
  have hr := ho.tl.hd r rfl
  obtain ⟨-, hat⟩ := hP.1 r hr (by rw [hk]; omega)
  rw [rb_eP hk h1] at hat
  exact va_aldq C.1 C.2.1 C.2.2.2.2.2.2.2.2.1.1 (rb_one hat) 0 (k - 12) rfl (rb_tys_q _ h1 h2) hi hd (kk ad H locs ls hP hn hS hl (ho.tl.tl.cons (fun r' e => hP.2.2.1 r _ r' hr (by cases hq : gP G r i.toNatClampNeg with | none => rw [hq] at e; cases e | some z => rw [hq] at e; cases e; rfl))) hv)
theorem rb_alen (C : rb_C Φ own cc nL fr lo mc ms) {r : rb_R} {k : Nat} (hd : decode cc pc = .ok (.arraylength, 1)) (hk : rb_k r.1 = k) (h1 : k = 10 ∨ 12 < k) (h2 : k < 16) (kk : rb_W Φ cells slots (pc + 1) Lv (rbI (nI (gN G r)) :: st) G) : rb_W Φ cells slots pc Lv (rbR r :: st) G := by
  obtain ⟨p, l, e, R, s, m, args, below, meth, c, Q, X, A, ad0, G0⟩ := Φ
  intro ad H locs ls hP hn hS hl ho hv
  have hr := ho.hd r rfl
  obtain ⟨-, hat⟩ := hP.1 r hr (by rw [hk]; omega)
  have hk9 := kk ad H locs ls hP hn hS hl (ho.tl.cons (rb_ok_i _ _)) hv
  rcases h1 with rfl | h3
  · rw [rb_eI hk (by decide) (by decide)] at hat
    exact va_alen C.1 C.2.1 C.2.2.2.2.2.2.2.2.1.1 (rb_one hat) 0 0 rfl (ty := .int) rfl rfl hd hk9
  · rw [rb_eP hk h3] at hat
    exact va_alen C.1 C.2.1 C.2.2.2.2.2.2.2.2.1.1 (rb_one hat) 0 (k - 12) rfl (rb_tys_q _ h3 h2) rfl hd hk9
/-- the empty row of ArrayList -/
theorem rb_alenE (C : rb_C Φ own cc nL fr lo mc ms) (hd : decode cc pc = .ok (.arraylength, 1)) (kk : rb_W Φ cells slots (pc + 1) Lv (rbI 0 :: st) G) : rb_W Φ cells slots pc Lv (rbR (19, 0, 0) :: st) G := by
  obtain ⟨p, l, e, R, s, m, args, below, meth, c, Q, X, A, ad0, G0⟩ := Φ
  intro ad H locs ls hP hn hS hl ho hv
  have h := kk ad H locs ls hP hn hS hl (ho.tl.cons (rb_ok_i _ _)) hv
  show W p l e R s m args below meth c H locs cells slots Q (F0 m pc ls (Value.ref (ad (19, 0, 0)) :: st.map (rb_c ad)))
  rw [hP.2.2.2.1]
  exact va_tlen C.1 C.2.1 C.2.2.2.2.2.2.2.2.2.1.2.2.2.1 hS (v := 0) rfl hd h
/-- arrays: writes -/
theorem rb_iast (C : rb_C Φ own cc nL fr lo mc ms) {r : rb_R} {i x : Int32} (hd : decode cc pc = .ok (.iastore, 1)) (hk : rb_k r.1 = 10) (hi : vp_in i (gN G r)) (kk : rb_W Φ cells slots (pc + 1) Lv st (sI G r i.toNatClampNeg x)) : rb_W Φ cells slots pc Lv (rbI x :: rbI i :: rbR r :: st) G := by
  obtain ⟨p, l, e, R, s, m, args, below, meth, c, Q, X, A, ad0, G0⟩ := Φ
  intro ad H locs ls hP hn hS hl ho hv
  have hr := ho.tl.tl.hd r rfl
  have hk20 : rb_k r.1 < 20 := by rw [hk]; decide
  obtain ⟨hAr, hat⟩ := hP.1 r hr hk20
  rw [rb_eI hk (by decide) (by decide)] at hat
  refine W.iast C.1 C.2.1 hat ((C.2.2.2.2.2.2.2.2.1.1.2 0 _ rfl).1 (gN G r) (fun j => .int (gI G r j))) (fun q => by cases q) (by show ¬ (i < 0 ∨ (arrV _ _ _).slots.size ≤ _); rw [arrV_size]; exact hi) rfl rfl hd fun H1 e1 e2 e3 => ?_
  refine kk ad H1 _ ls (hP.upd hr hk20 ?_ e3 rfl (fun r' h => rb_e_sI h) hP.2.2.1) hn (hS.put e2 e3 hAr) hl ho.tl.tl.tl hv
  rw [rb_eI hk (by decide) (by decide)]
  show H1[ad r]? = some (vp_cell _ _)
  rw [e1, vp_cell_i, vp_cell_i, arrV_store]
  congr 2
  funext q
  by_cases hq : q = i.toNatClampNeg
  · subst hq
    simp [updV, sI, gI, up2]
  · simp [updV, sI, gI, up2, hq]
/-- an object of class ci may lie in a row of kind k -/
def rb_fit2 (k ci : Nat) : Prop := (k = 14 ∧ ci = 6) ∨ (k = 15 ∧ ci = 1) ∨ (k = 13 ∧ (ci = 2 ∨ ci = 7 ∨ ci = 4 ∨ ci = 5))
theorem rb_aast (C : rb_C Φ own cc nL fr lo mc ms) {r v : rb_R} {i : Int32} {k ci : Nat} (hd : decode cc pc = .ok (.aastore, 1)) (hk : rb_k r.1 = k) (hkv : rb_k v.1 = ci) (hf : rb_fit2 k ci) (hi : vp_in i (gN G r)) (kk : rb_W Φ cells slots (pc + 1) Lv st (sP G r i.toNatClampNeg (some v))) : rb_W Φ cells slots pc Lv (rbR v :: rbI i :: rbR r :: st) G := by
  obtain ⟨p, l, e, R, s, m, args, below, meth, c, Q, X, A, ad0, G0⟩ := Φ
  intro ad H locs ls hP hn hS hl ho hv
  have hr := ho.tl.tl.hd r rfl
  have hrv := ho.hd v rfl
  have h12 : 12 < k ∧ k < 16 ∧ ci < 10 := by
    rcases hf with ⟨rfl, rfl⟩ | ⟨rfl, rfl⟩ | ⟨rfl, rfl | rfl | rfl | rfl⟩ <;> decide
  have hk20 : rb_k r.1 < 20 := by rw [hk]; omega
  obtain ⟨hAr, hat⟩ := hP.1 r hr hk20
  rw [rb_eP hk h12.1] at hat
  obtain ⟨-, hav⟩ := hP.1 v hrv (by rw [hkv]; omega)
  rw [rb_eo hkv h12.2.2] at hav
  have h0 : ¬ i < 0 := fun q => hi (Or.inl q)
  have hlt : i.toNatClampNeg < gN G r := Nat.not_le.mp fun q => hi (Or.inr q)
  have hK1 := C.2.2.2.2.2.2.2.2.1
  obtain ⟨r', hr', cellV, g1, g2, g3, -⟩ := hav
  obtain ⟨hArr, hRA⟩ := hK1.1.2 (k - 12) _ (rb_tys_q _ h12.1 h12.2.1)
  obtain ⟨kA, comp, k1, k2, k3, -⟩ := hRA
  have hcls := (hK1.1.1 ci r' hr').2
  obtain ⟨kC, hkC, hkind⟩ := hcls.2
  have hasg : s.vm.assignable (X.1.1 ci) comp = true := by
    have cst : ∀ nm : String, (nm, "java/lang/Object") ∈ rb_cst → s.vm.findClass nm = some (X.1.1 ci) → s.vm.findClass "java/lang/Object" = some comp → s.vm.assignable (X.1.1 ci) comp = true := by
      intro nm hm f1 f2
      obtain ⟨c0, t0, e1, e2, e3⟩ := Cond.castable_spec (va_Nw.use (A := #[]) rfl (hK1.2.2.1 _ hm))
      cases Option.some.inj (e1.symm.trans f1)
      cases Option.some.inj (e2.symm.trans f2)
      exact e3
    rcases hf with ⟨rfl, rfl⟩ | ⟨rfl, rfl⟩ | ⟨rfl, rfl | rfl | rfl | rfl⟩
    · cases Option.some.inj (hr'.symm.trans (rfl : vwCl[6]? = some (RX5, TX5, 7)))
      cases Option.some.inj (k3.symm.trans hcls.1)
      exact va_assign hcls
    · cases Option.some.inj (hr'.symm.trans (rfl : vwCl[1]? = some (RX0, TX0, 3)))
      cases Option.some.inj (k3.symm.trans hcls.1)
      exact va_assign hcls
    · cases Option.some.inj (hr'.symm.trans (rfl : vwCl[2]? = some (RX1, TX1, 7)))
      exact cst RX1 (by decide +kernel) hcls.1 k3
    · cases Option.some.inj (hr'.symm.trans (rfl : vwCl[7]? = some (RX6, TX6, 11)))
      exact cst RX6 (by decide +kernel) hcls.1 k3
    · cases Option.some.inj (hr'.symm.trans (rfl : vwCl[4]? = some (RX3, TX3, 4)))
      exact cst RX3 (by decide +kernel) hcls.1 k3
    · cases Option.some.inj (hr'.symm.trans (rfl : vwCl[5]? = some (RX4, TX4, 5)))
      exact cst RX4 (by decide +kernel) hcls.1 k3
  obtain ⟨kcomp, hkcomp, -⟩ := Vm.findClass_spec k3
  refine W.aast C.1 C.2.1 hat (fun q h => by cases h) (fun h => by cases h) k1 k2 rfl hkcomp ⟨h0, by show _ < (arrV _ _ _).slots.size; rw [arrV_size]; exact hlt⟩ g1 (fun q h => by rw [g3] at h; cases h) (by rw [g2]; exact hkC) (by rw [g2]; exact hasg) rfl rfl hd fun H1 e1 e2 e3 => ?_
  refine kk ad H1 _ ls (hP.upd hr hk20 ?_ e3 rfl (fun r' h => rb_e_sP h) (rb_cl_sP hP.2.2.1 (fun r2 e2 => by cases e2; exact hrv))) hn (hS.put e2 e3 hAr) hl ho.tl.tl.tl hv
  rw [rb_eP hk h12.1]
  show H1[ad r]? = some (vp_cell _ _)
  rw [e1, vp_cell_q, vp_cell_q, arrV_store]
  congr 2
  funext q
  by_cases hq : q = i.toNatClampNeg
  · subst hq
    simp [updV, sP, gP, up2, va_rf]
  · simp [updV, sP, gP, up2, hq]
end
