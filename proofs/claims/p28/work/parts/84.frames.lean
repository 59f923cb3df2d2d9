/-! the two sides don't touch each other -/
def mf (W W' : rb_I) : Prop := ∀ r q, r.1 < 14 → W' r q = W r q
def xf (W W' : rb_I) : Prop := ∀ r q, 14 ≤ r.1 → W' r q = W r q
theorem mf_rf (W : rb_I) : mf W W := fun _ _ _ => rfl
theorem xf_rf (W : rb_I) : xf W W := fun _ _ _ => rfl
theorem mf_up {W W' : rb_I} {b : rb_R} {k : Nat} {v : Int32} (h : mf W W') (hb : 14 ≤ b.1) : mf W (up2 W' b k v) := fun r q hr => by
  rw [up2_n _ _ _ _ (fun z => by rw [z.1] at hr; omega)]
  exact h r q hr
theorem xf_up {W W' : rb_I} {b : rb_R} {k : Nat} {v : Int32} (h : xf W W') (hb : b.1 < 14) : xf W (up2 W' b k v) := fun r q hr => by
  rw [up2_n _ _ _ _ (fun z => by rw [z.1] at hr; omega)]
  exact h r q hr
theorem xf_z {W W' : rb_I} {b : rb_R} (h : xf W W') (hb : b.1 < 14) : xf W (zW W' b) := fun r q hr => by
  unfold zW
  rw [if_neg (fun z => by rw [z] at hr; omega)]
  exact h r q hr
theorem mf_fo {W W' : rb_I} {f : Nat → rb_I → rb_I} (h : mf W W') (hf : ∀ i s, mf s (f i s)) (n : Nat) : mf W (fo f n W') :=
  fo_inv (f := f) (a := W') (P := fun w => mf W w) h (fun i a q r k hr => (hf i a r k hr).trans (q r k hr)) n
theorem xf_fo {W W' : rb_I} {f : Nat → rb_I → rb_I} (h : xf W W') (hf : ∀ i s, xf s (f i s)) (n : Nat) : xf W (fo f n W') :=
  fo_inv (f := f) (a := W') (P := fun w => xf W w) h (fun i a q r k hr => (hf i a r k hr).trans (q r k hr)) n
theorem mf_fp {W W' : rb_I} {x : Int32} {f : Nat → Int32 × rb_I → Int32 × rb_I} (h : mf W W') (hf : ∀ i s, mf s.2 (f i s).2) (n : Nat) : mf W (fo f n (x, W')).2 :=
  fo_inv (f := f) (a := (x, W')) (P := fun w => mf W w.2) h (fun i a q r k hr => (hf i a r k hr).trans (q r k hr)) n
theorem xf_fp {W W' : rb_I} {x : Int32} {f : Nat → Int32 × rb_I → Int32 × rb_I} (h : xf W W') (hf : ∀ i s, xf s.2 (f i s).2) (n : Nat) : xf W (fo f n (x, W')).2 :=
  fo_inv (f := f) (a := (x, W')) (P := fun w => xf W w.2) h (fun i a q r k hr => (hf i a r k hr).trans (q r k hr)) n
theorem mf_tr {W1 W2 W3 : rb_I} (h : mf W1 W2) (h' : mf W2 W3) : mf W1 W3 := fun r q hr => (h' r q hr).trans (h r q hr)
theorem xf_tr {W1 W2 W3 : rb_I} (h : xf W1 W2) (h' : xf W2 W3) : xf W1 W3 := fun r q hr => (h' r q hr).trans (h r q hr)
theorem mf_m_empties_b (n : Int32) (i : Nat) (s : rb_I) : mf s (m_empties_b n i s) := by
  unfold m_empties_b
  (repeat' split) <;> (repeat (first | exact mf_rf _ | refine mf_up ?_ (Nat.le_of_ble_eq_true rfl)))
theorem mf_m_empties (W : rb_I) (n : Int32) : mf W (m_empties W n) := mf_fo (mf_rf W) (fun i s => mf_m_empties_b n i s) _
theorem mf_m_makesContact (W : rb_I) (s : Int32) : mf W (m_makesContact W s) := by
  unfold m_makesContact
  (repeat' split) <;> (repeat (first | exact mf_rf _ | refine mf_up ?_ (Nat.le_of_ble_eq_true rfl)))
theorem mf_m_pays (W : rb_I) (s m : Int32) : mf W (m_pays W s m) := by
  unfold m_pays
  (repeat' split) <;> (repeat (first | exact mf_rf _ | refine mf_up ?_ (Nat.le_of_ble_eq_true rfl)))
theorem mf_m_records (W : rb_I) (s m : Int32) : mf W (m_records W s m) := by
  unfold m_records
  (repeat' split) <;> (repeat (first | exact mf_rf _ | refine mf_up ?_ (Nat.le_of_ble_eq_true rfl)))
theorem mf_m_cF (W : rb_I) (s o i a b : Int32) : mf W (m_cF W s o i a b) := by
  unfold m_cF
  exact mf_up (mf_tr (mf_m_pays W s a) (mf_tr (mf_m_pays _ o b) (mf_tr (mf_m_records _ s i) (mf_m_records _ o i)))) (Nat.le_of_ble_eq_true rfl)
theorem mf_m_reach_b (p ns : Int32) (i : Nat) (s : rb_I) : mf s (m_reach_b p ns i s) := by
  unfold m_reach_b
  (repeat' split) <;> (repeat (first | exact mf_rf _ | refine mf_up ?_ (Nat.le_of_ble_eq_true rfl)))
theorem mf_m_dead_b (n : Int32) (i : Nat) (s : rb_I) : mf s (m_dead_b n i s) := by
  unfold m_dead_b
  (repeat' split) <;> (repeat (first | exact mf_rf _ | refine mf_up ?_ (Nat.le_of_ble_eq_true rfl)))
theorem mf_m_file_b (M : rb_I) (vi ho : Int32) (i : Nat) (s : rb_I) : mf s (m_file_b M vi ho i s) := by
  unfold m_file_b
  (repeat' split) <;> (repeat (first | exact mf_rf _ | refine mf_up ?_ (Nat.le_of_ble_eq_true rfl)))
theorem mf_m_begins_c (i : Nat) (s : rb_I) : mf s (m_begins_c i s) := by
  unfold m_begins_c
  (repeat' split) <;> (repeat (first | exact mf_rf _ | refine mf_up ?_ (Nat.le_of_ble_eq_true rfl)))
theorem mf_m_begins_b (i : Nat) (s : rb_I) : mf s (m_begins_b i s) := by
  unfold m_begins_b
  (repeat' split) <;> (repeat (first | exact mf_rf _ | exact mf_m_makesContact _ _ | refine mf_up ?_ (Nat.le_of_ble_eq_true rfl)))
theorem mf_m_deliver_b (vi ho fl : Int32) (i : Nat) (s : Int32 × rb_I) : mf s.2 (m_deliver_b vi ho fl i s).2 := by
  unfold m_deliver_b
  (repeat' split) <;> (repeat (first | exact mf_rf _ | refine mf_up ?_ (Nat.le_of_ble_eq_true rfl)))
theorem mf_m_begins (W : rb_I) : mf W (m_begins W) := mf_fo (mf_fo (mf_rf W) (fun i s => mf_m_begins_b i s) _) (fun i s => mf_m_begins_c i s) _
theorem mf_m_pass_b (i : Nat) (s : rb_I) : mf s (m_pass_b i s) := by
  unfold m_pass_b
  (repeat' split) <;> (repeat (first | exact mf_rf _ | refine mf_tr ?_ (mf_m_begins _) | refine mf_up ?_ (Nat.le_of_ble_eq_true rfl)))
theorem mf_reach (M : rb_I) (p ns : Int32) : mf M (m_reach M p ns).2 := by
  unfold m_reach
  (repeat' split) <;> (repeat (first | exact mf_rf _ | refine mf_fo ?_ (fun i s => mf_m_reach_b _ _ i s) _ | refine mf_up ?_ (Nat.le_of_ble_eq_true rfl)))
theorem mf_dead (M : rb_I) (n is : Int32) : mf M (m_dead M n is).2 := by
  unfold m_dead
  (repeat' split) <;> (repeat (first | exact mf_rf _ | refine mf_fo ?_ (fun i s => mf_m_dead_b _ i s) _ | refine mf_tr ?_ (mf_m_empties _ _) | refine mf_up ?_ (Nat.le_of_ble_eq_true rfl)))
theorem mf_agree (M : rb_I) (ho vi fr0 to0 pr th lw : Int32) : mf M (m_agree M ho vi fr0 to0 pr th lw).2 := by
  unfold m_agree
  (repeat' split) <;> (repeat (first | exact mf_rf _ | refine mf_up ?_ (Nat.le_of_ble_eq_true rfl)))
theorem mf_steer (M : rb_I) (ho n : Int32) : mf M (m_steer M ho n).2 := by
  unfold m_steer
  (repeat' split) <;> (repeat (first | exact mf_rf _ | refine mf_up ?_ (Nat.le_of_ble_eq_true rfl)))
theorem mf_lose (M : rb_I) (n many : Int32) : mf M (m_lose M n many).2 := by
  unfold m_lose
  (repeat' split) <;> (repeat (first | exact mf_rf _ | refine mf_up ?_ (Nat.le_of_ble_eq_true rfl)))
theorem mf_crash (M : rb_I) (n : Int32) : mf M (m_crash M n).2 := by
  unfold m_crash
  (repeat' split) <;> (repeat (first | exact mf_rf _ | refine mf_tr ?_ (mf_m_empties _ _) | refine mf_up ?_ (Nat.le_of_ble_eq_true rfl)))
theorem mf_subscriber (M : rb_I) (ho pl fo0 : Int32) : mf M (m_subscriber M ho pl fo0).2 := by
  unfold m_subscriber
  (repeat' split) <;> (repeat (first | exact mf_rf _ | refine mf_up ?_ (Nat.le_of_ble_eq_true rfl)))
theorem mf_move (M : rb_I) (s p : Int32) : mf M (m_move M s p).2 := by
  unfold m_move
  (repeat' split) <;> (repeat (first | exact mf_rf _ | refine mf_up ?_ (Nat.le_of_ble_eq_true rfl)))
theorem mf_off (M : rb_I) (s : Int32) : mf M (m_off M s).2 := by
  unfold m_off
  (repeat' split) <;> (repeat (first | exact mf_rf _ | refine mf_up ?_ (Nat.le_of_ble_eq_true rfl)))
theorem mf_where (M : rb_I) (s : Int32) : mf M (m_where M s).2 := by
  unfold m_where
  (repeat' split) <;> (repeat (first | exact mf_rf _ | refine mf_up ?_ (Nat.le_of_ble_eq_true rfl)))
theorem mf_paidAnew (M : rb_I) (s : Int32) : mf M (m_paidAnew M s).2 := by
  unfold m_paidAnew
  (repeat' split) <;> (repeat (first | exact mf_rf _ | refine mf_up ?_ (Nat.le_of_ble_eq_true rfl)))
theorem mf_contact (M : rb_I) (n s : Int32) : mf M (m_contact M n s).2 := by
  unfold m_contact
  (repeat' split) <;> (repeat (first | exact mf_rf _ | refine mf_up ?_ (Nat.le_of_ble_eq_true rfl)))
theorem mf_emergency (M : rb_I) (u : Int32) : mf M (m_emergency M u).2 := by
  unfold m_emergency
  (repeat' split) <;> (repeat (first | exact mf_rf _ | refine mf_up ?_ (Nat.le_of_ble_eq_true rfl)))
theorem mf_agrees (M : rb_I) (u : Int32) : mf M (m_agrees M u).2 := by
  unfold m_agrees
  (repeat' split) <;> (repeat (first | exact mf_rf _ | refine mf_up ?_ (Nat.le_of_ble_eq_true rfl)))
theorem mf_subscriberIs (M : rb_I) (s what : Int32) : mf M (m_subscriberIs M s what).2 := by
  unfold m_subscriberIs
  (repeat' split) <;> (repeat (first | exact mf_rf _ | refine mf_up ?_ (Nat.le_of_ble_eq_true rfl)))
theorem mf_attach (M : rb_I) (s n : Int32) : mf M (m_attach M s n).2 := by
  unfold m_attach
  (repeat' split) <;> (repeat (first | exact mf_rf _ | refine mf_tr ?_ (mf_m_makesContact _ _) | refine mf_up ?_ (Nat.le_of_ble_eq_true rfl)))
theorem mf_file (M : rb_I) (vi ho : Int32) : mf M (m_file M vi ho).2 := by
  unfold m_file
  (repeat' split) <;> (repeat (first | exact mf_rf _ | refine mf_fo ?_ (fun i s => mf_m_file_b _ _ _ i s) _ | refine mf_up ?_ (Nat.le_of_ble_eq_true rfl)))
theorem mf_deliver (M : rb_I) (vi ho fl : Int32) : mf M (m_deliver M vi ho fl).2 := by
  unfold m_deliver
  (repeat' split) <;> (repeat (first | exact mf_rf _ | refine mf_fp ?_ (fun i s => mf_m_deliver_b _ _ _ i s) _ | refine mf_up ?_ (Nat.le_of_ble_eq_true rfl)))
theorem mf_owes (M : rb_I) (ho vi : Int32) : mf M (m_owes M ho vi).2 := by
  unfold m_owes
  (repeat' split) <;> (repeat (first | exact mf_rf _ | refine mf_up ?_ (Nat.le_of_ble_eq_true rfl)))
theorem mf_recorded (M : rb_I) (vi ho what : Int32) : mf M (m_recorded M vi ho what).2 := by
  unfold m_recorded
  (repeat' split) <;> (repeat (first | exact mf_rf _ | refine mf_up ?_ (Nat.le_of_ble_eq_true rfl)))
theorem mf_pass (M : rb_I) (mins : Int32) : mf M (m_pass M mins).2 := by
  unfold m_pass
  (repeat' split) <;> (repeat (first | exact mf_rf _ | refine mf_fo ?_ (fun i s => mf_m_pass_b i s) _ | refine mf_up ?_ (Nat.le_of_ble_eq_true rfl)))
theorem mf_owesAnew (M : rb_I) (ho vi : Int32) : mf M (m_owesAnew M ho vi).2 := mf_owes M ho vi
theorem mf_prices (M : rb_I) (ho ah ab ca : Int32) : mf M (m_prices M ho ah ab ca) := by
  unfold m_prices
  (repeat' split) <;> (repeat (first | exact mf_rf _ | refine mf_up ?_ (Nat.le_of_ble_eq_true rfl)))
theorem mf_cap (M : rb_I) (s c co : Int32) : mf M (m_cap M s c co) := by
  unfold m_cap
  (repeat' split) <;> (repeat (first | exact mf_rf _ | refine mf_up ?_ (Nat.le_of_ble_eq_true rfl)))
theorem mf_call (M : rb_I) (s o sec : Int32) : mf M (m_call M s o sec).2 := by
  have u : ∀ v, mf M (up2 M (16, 0, 0) 0 v) := fun v => mf_up (mf_rf M) (Nat.le_of_ble_eq_true rfl)
  rw [m_call_e]
  by_cases e0 : m_isSubscriber M s = 0
  · rw [if_pos e0]; exact u _
  rw [if_neg e0]
  by_cases e1 : m_isSubscriber M o = 0
  · rw [if_pos e1]; exact u _
  rw [if_neg e1]
  by_cases e2 : s = o
  · rw [if_pos e2]; exact u _
  rw [if_neg e2]
  by_cases e3 : m_in sec (1 : Int32) (36000 : Int32) = 0
  · rw [if_pos e3]; exact u _
  rw [if_neg e3]
  by_cases e4 : M (16, 0, 0) 28 = 200
  · rw [if_pos e4]; exact u _
  rw [if_neg e4]
  by_cases e6 : m_nobody (up2 M (16, 0, 0) 0 0) s o ≤ 0
  · rw [if_pos e6]
    unfold m_cT
    by_cases e7 : m_isAbove (up2 M (16, 0, 0) 0 0) s ((sec + 59) / 60 * m_cP (up2 M (16, 0, 0) 0 0) s) = 0
    · rw [if_pos e7]
      by_cases e8 : m_isAbove (up2 M (16, 0, 0) 0 0) o ((sec + 59) / 60 * m_cQ (up2 M (16, 0, 0) 0 0) o) = 0
      · rw [if_pos e8]; exact mf_tr (u 0) (mf_m_cF _ _ _ _ _ _)
      · rw [if_neg e8]; exact u _
    · rw [if_neg e7]; exact u _
  · rw [if_neg e6]; exact u _
theorem xf_x_fill_b (n : Nat) (x : Int32) (i : Nat) (s : rb_I) : xf s (x_fill_b n x i s) := by
  unfold x_fill_b
  (repeat' split) <;> (repeat (first | exact xf_rf _ | refine xf_up ?_ (Nat.le_of_ble_eq_true rfl)))
theorem xf_x2_clear (W : rb_I) (n : Nat) : xf W (x2_clear W n) := xf_fo (xf_rf W) (fun i s => xf_x_fill_b n _ i s) _
theorem xf_x2_put (W : rb_I) (n : Nat) (k x : Int32) : xf W (x2_put W n k x) := by
  unfold x2_put
  (repeat' split) <;> (repeat (first | exact xf_rf _ | refine xf_up ?_ (Nat.le_of_ble_eq_true rfl)))
theorem xf_x2_takeOut (W : rb_I) (n : Nat) (k : Int32) : xf W (x2_takeOut W n k) := xf_x2_put W n k _
theorem xf_x2_takeOutUpTo_b (n : Nat) (x : Int32) (i : Nat) (s : rb_I) : xf s (x2_takeOutUpTo_b n x i s) := by
  unfold x2_takeOutUpTo_b
  (repeat' split) <;> (repeat (first | exact xf_rf _ | refine xf_up ?_ (Nat.le_of_ble_eq_true rfl)))
theorem xf_x2_takeOutUpTo (W : rb_I) (n : Nat) (x : Int32) : xf W (x2_takeOutUpTo W n x) := xf_fo (xf_rf W) (fun i s => xf_x2_takeOutUpTo_b n x i s) _
theorem xf_x7_makeContact (W : rb_I) (j : Nat) (wh : Int32) : xf W (x7_makeContact W j wh) := by
  unfold x7_makeContact
  (repeat' split) <;> (repeat (first | exact xf_rf _ | refine xf_tr ?_ (xf_x2_takeOut _ _ _) | refine xf_tr ?_ (xf_x2_put _ _ _ _) | refine xf_up ?_ (Nat.le_of_ble_eq_true rfl)))
theorem xf_x7_detachIfNotReceived (W : rb_I) (j : Nat) : xf W (x7_detachIfNotReceived W j) := by
  unfold x7_detachIfNotReceived
  (repeat' split) <;> (repeat (first | exact xf_rf _ | refine xf_up ?_ (Nat.le_of_ble_eq_true rfl)))
theorem xf_x7_daf_b (n : Int32) (i : Nat) (s : rb_I) : xf s (x7_daf_b n i s) := by
  unfold x7_daf_b
  (repeat' split) <;> (repeat (first | exact xf_rf _ | refine xf_up ?_ (Nat.le_of_ble_eq_true rfl)))
theorem xf_x7_detachAllFrom (W : rb_I) (cn : Nat → Nat) (n : Int32) : xf W (x7_detachAllFrom W cn n) := xf_fo (xf_rf W) (fun i s => xf_x7_daf_b n i s) _
theorem xf_x7_reach_b (p : Int32) (i : Nat) (s : rb_I) : xf s (x7_reach_b p i s) := by
  unfold x7_reach_b
  (repeat' split) <;> (repeat (first | exact xf_rf _ | exact xf_x7_detachIfNotReceived _ _ | refine xf_up ?_ (Nat.le_of_ble_eq_true rfl)))
theorem xf_x0_ftr_b (W : rb_I) (k i : Nat) (s : rb_I) : xf s (x0_ftr_b W k i s) := by
  unfold x0_ftr_b
  (repeat' split) <;> (repeat (first | exact xf_rf _ | refine xf_up ?_ (Nat.le_of_ble_eq_true rfl)))
theorem xf_x0_tnf_b (k : Nat) (now : Int32) (i : Nat) (s : Int32 × rb_I) : xf s.2 (x0_tnf_b k now i s).2 := by
  unfold x0_tnf_b
  (repeat' split) <;> (repeat (first | exact xf_rf _ | refine xf_up ?_ (Nat.le_of_ble_eq_true rfl)))
theorem xf_x0_fileTheRest (W : rb_I) (cn : Nat → Nat) (k : Nat) : xf W (x0_fileTheRest W cn k).2 := xf_up (xf_fo (xf_rf W) (fun i s => xf_x0_ftr_b _ _ i s) _) (Nat.le_of_ble_eq_true rfl)
theorem xf_x0_takeNextFile (W : rb_I) (cn : Nat → Nat) (k : Nat) (now : Int32) : xf W (x0_takeNextFile W cn k now).2 := xf_up (xf_fp (xf_rf W) (fun i s => xf_x0_tnf_b _ _ i s) _) (Nat.le_of_ble_eq_true rfl)
theorem xf_x7_bh_b (wh : Int32) (i : Nat) (s : rb_I) : xf s (x7_bh_b wh i s) := by
  unfold x7_bh_b
  (repeat' split) <;> (repeat (first | exact xf_rf _ | exact xf_x7_makeContact _ _ _ | refine xf_up ?_ (Nat.le_of_ble_eq_true rfl)))
theorem xf_x7_bh_c (wh : Int32) (i : Nat) (s : rb_I) : xf s (x7_bh_c wh i s) := xf_x2_takeOutUpTo _ _ _
theorem xf_x7_beginHour (W : rb_I) (cn : Nat → Nat) (wh : Int32) : xf W (x7_beginHour W cn wh) := xf_fo (xf_fo (xf_rf W) (fun i s => xf_x7_bh_b _ i s) _) (fun i s => xf_x7_bh_c _ i s) _
theorem xf_x7_hr_b (cn : Nat → Nat) (a i : Nat) (s : rb_I) : xf s (x7_hr_b cn a i s) := xf_x7_beginHour _ _ _
theorem xf_x7_beginHours (W : rb_I) (cn : Nat → Nat) (a b : Nat) : xf W (x7_beginHours W cn a b) := by
  unfold x7_beginHours
  (repeat' split) <;> (repeat (first | exact xf_rf _ | refine xf_tr ?_ (xf_x7_beginHour _ _ _) | refine xf_fo ?_ (fun i s => xf_x7_hr_b _ _ i s) _ | refine xf_up ?_ (Nat.le_of_ble_eq_true rfl)))
theorem xf_x7_bm_b (i : Nat) (s : rb_I) : xf s (x7_bm_b i s) := xf_up (xf_rf s) (Nat.le_of_ble_eq_true rfl)
theorem xf_x7_beginMonth (W : rb_I) (cn : Nat → Nat) : xf W (x7_beginMonth W cn) := xf_fo (xf_rf W) (fun i s => xf_x7_bm_b i s) _
theorem xf_em (W : rb_I) (u : Int32) : ∀ d i, (x7_em_b W u d i).2.2 = W := by
  intro d
  induction d with
  | zero => intro i; rfl
  | succ d ih =>
    intro i
    unfold x7_em_b
    split
    · exact ih _
    · split
      · rfl
      · exact ih _
theorem xf_ag (W : rb_I) (u : Int32) : ∀ d i, (x7_ag_b W u d i).2.2 = W := by
  intro d
  induction d with
  | zero => intro i; unfold x7_ag_b; (repeat' split) <;> rfl
  | succ d ih =>
    intro i
    unfold x7_ag_b
    (repeat' split) <;> first | rfl | exact ih _
theorem xf_emergency (W : rb_I) (cn : Nat → Nat) (u : Int32) : xf W (x7_emergency W cn u).2.2 := by
  unfold x7_emergency
  (repeat' split) <;> first | exact xf_rf _ | (rw [xf_em]; exact xf_rf _)
theorem xf_agrees (W : rb_I) (cn : Nat → Nat) (u : Int32) : xf W (x7_agrees W cn u).2.2 := by
  unfold x7_agrees
  (repeat' split) <;> first | exact xf_rf _ | (rw [xf_ag]; exact xf_rf _)
theorem xf_reach (W : rb_I) (cn : Nat → Nat) (p ns : Int32) : xf W (x7_reach W cn p ns).2.2 := by
  unfold x7_reach 
  (repeat' split) <;> (repeat (first | exact xf_rf _ | refine xf_fo ?_ (fun i s => xf_x7_reach_b _ i s) _ | refine xf_up ?_ (Nat.le_of_ble_eq_true rfl)))
theorem xf_dead (W : rb_I) (cn : Nat → Nat) (n is : Int32) : xf W (x7_dead W cn n is).2.2 := by
  unfold x7_dead 
  (repeat' split) <;> (repeat (first | exact xf_rf _ | refine xf_tr ?_ (xf_x7_detachAllFrom _ _ _) | refine xf_tr ?_ (xf_x2_clear _ _) | refine xf_up ?_ (Nat.le_of_ble_eq_true rfl)))
theorem xf_agree (W : rb_I) (cn : Nat → Nat) (ho vi fr0 to0 pr th lw : Int32) : xf W (x7_agree W cn ho vi fr0 to0 pr th lw).2.2 := by
  unfold x7_agree x1_init
  (repeat' split) <;> (repeat (first | exact xf_rf _ | refine xf_z ?_ (Nat.le_of_ble_eq_true rfl) | refine xf_up ?_ (Nat.le_of_ble_eq_true rfl)))
theorem xf_steer (W : rb_I) (cn : Nat → Nat) (ho n : Int32) : xf W (x7_steer W cn ho n).2.2 := by
  unfold x7_steer 
  (repeat' split) <;> (repeat (first | exact xf_rf _ | refine xf_up ?_ (Nat.le_of_ble_eq_true rfl)))
theorem xf_lose (W : rb_I) (cn : Nat → Nat) (n many : Int32) : xf W (x7_lose W cn n many).2.2 := by
  unfold x7_lose 
  (repeat' split) <;> (repeat (first | exact xf_rf _ | refine xf_up ?_ (Nat.le_of_ble_eq_true rfl)))
theorem xf_crash (W : rb_I) (cn : Nat → Nat) (n : Int32) : xf W (x7_crash W cn n).2.2 := by
  unfold x7_crash 
  (repeat' split) <;> (repeat (first | exact xf_rf _ | exact xf_x2_clear _ _ | refine xf_up ?_ (Nat.le_of_ble_eq_true rfl)))
theorem xf_subscriber (W : rb_I) (cn : Nat → Nat) (ho pl fo0 : Int32) : xf W (x7_subscriber W cn ho pl fo0).2.2 := by
  unfold x7_subscriber x6_init
  (repeat' split) <;> (repeat (first | exact xf_rf _ | refine xf_z ?_ (Nat.le_of_ble_eq_true rfl) | refine xf_up ?_ (Nat.le_of_ble_eq_true rfl)))
theorem xf_move (W : rb_I) (cn : Nat → Nat) (s p : Int32) : xf W (x7_move W cn s p).2.2 := by
  unfold x7_move 
  (repeat' split) <;> (repeat (first | exact xf_rf _ | refine xf_tr ?_ (xf_x7_detachIfNotReceived _ _) | refine xf_up ?_ (Nat.le_of_ble_eq_true rfl)))
theorem xf_off (W : rb_I) (cn : Nat → Nat) (s : Int32) : xf W (x7_off W cn s).2.2 := by
  unfold x7_off 
  (repeat' split) <;> (repeat (first | exact xf_rf _ | refine xf_up ?_ (Nat.le_of_ble_eq_true rfl)))
theorem xf_where (W : rb_I) (cn : Nat → Nat) (s : Int32) : xf W (x7_where W cn s).2.2 := by
  unfold x7_where 
  (repeat' split) <;> (repeat (first | exact xf_rf _ | refine xf_up ?_ (Nat.le_of_ble_eq_true rfl)))
theorem xf_paidAnew (W : rb_I) (cn : Nat → Nat) (s : Int32) : xf W (x7_paidAnew W cn s).2.2 := by
  unfold x7_paidAnew 
  (repeat' split) <;> (repeat (first | exact xf_rf _ | refine xf_up ?_ (Nat.le_of_ble_eq_true rfl)))
theorem xf_contact (W : rb_I) (cn : Nat → Nat) (n s : Int32) : xf W (x7_contact W cn n s).2.2 := by
  unfold x7_contact 
  (repeat' split) <;> (repeat (first | exact xf_rf _ | refine xf_up ?_ (Nat.le_of_ble_eq_true rfl)))
theorem xf_subscriberIs (W : rb_I) (cn : Nat → Nat) (s what : Int32) : xf W (x7_subscriberIs W cn s what).2.2 := by
  unfold x7_subscriberIs 
  (repeat' split) <;> (repeat (first | exact xf_rf _ | refine xf_up ?_ (Nat.le_of_ble_eq_true rfl)))
theorem xf_attach (W : rb_I) (cn : Nat → Nat) (s n : Int32) : xf W (x7_attach W cn s n).2.2 := by
  unfold x7_attach 
  (repeat' split) <;> (repeat (first | exact xf_rf _ | refine xf_tr ?_ (xf_x7_makeContact _ _ _) | refine xf_up ?_ (Nat.le_of_ble_eq_true rfl)))
theorem xf_file (W : rb_I) (cn : Nat → Nat) (vi ho : Int32) : xf W (x7_file W cn vi ho).2.2 := by
  unfold x7_file 
  (repeat' split) <;> (repeat (first | exact xf_rf _ | exact xf_x0_fileTheRest _ _ _ | refine xf_up ?_ (Nat.le_of_ble_eq_true rfl)))
theorem xf_deliver (W : rb_I) (cn : Nat → Nat) (vi ho fl : Int32) : xf W (x7_deliver W cn vi ho fl).2.2 := by
  unfold x7_deliver 
  (repeat' split) <;> (repeat (first | exact xf_rf _ | exact xf_x0_takeNextFile _ _ _ _ | refine xf_up ?_ (Nat.le_of_ble_eq_true rfl)))
theorem xf_owes (W : rb_I) (cn : Nat → Nat) (ag : Nat → Nat → Int32) (ho vi : Int32) : xf W (x7_owes W cn ag ho vi).2.2 := by
  unfold x7_owes 
  (repeat' split) <;> (repeat (first | exact xf_rf _ | refine xf_up ?_ (Nat.le_of_ble_eq_true rfl)))
theorem xf_recorded (W : rb_I) (cn : Nat → Nat) (vi ho what : Int32) : xf W (x7_recorded W cn vi ho what).2.2 := by
  unfold x7_recorded 
  (repeat' split) <;> (repeat (first | exact xf_rf _ | refine xf_up ?_ (Nat.le_of_ble_eq_true rfl)))
theorem xf_pass (W : rb_I) (cn : Nat → Nat) (mins : Int32) (t : Nat) : xf W (x7_pass W cn mins t).2.2 := by
  unfold x7_pass 
  (repeat' split) <;> (repeat (first | exact xf_rf _ | refine xf_tr ?_ (xf_x7_beginMonth _ _) | refine xf_tr ?_ (xf_x7_beginHours _ _ _ _) | refine xf_up ?_ (Nat.le_of_ble_eq_true rfl)))
theorem xf_prices (W : rb_I) (cn : Nat → Nat) (ho ah ab ca : Int32) : xf W (x7_prices W cn ho ah ab ca).2.2 := by
  unfold x7_prices 
  (repeat' split) <;> (repeat (first | exact xf_rf _ | refine xf_up ?_ (Nat.le_of_ble_eq_true rfl)))
theorem xf_cap (W : rb_I) (cn : Nat → Nat) (s c co : Int32) : xf W (x7_cap W cn s c co).2.2 := by
  unfold x7_cap 
  (repeat' split) <;> (repeat (first | exact xf_rf _ | refine xf_up ?_ (Nat.le_of_ble_eq_true rfl)))
theorem xf_call (W : rb_I) (cn : Nat → Nat) (s o sec : Int32) : xf W (x7_call W cn s o sec).2.2 := by
  unfold x7_call x7_cW x3_init
  (repeat' split) <;> (repeat (first | exact xf_rf _ | refine xf_z ?_ (Nat.le_of_ble_eq_true rfl) | refine xf_up ?_ (Nat.le_of_ble_eq_true rfl)))
theorem xf_owesAnew (W : rb_I) (cn : Nat → Nat) (ag : Nat → Nat → Int32) (ho vi : Int32) : xf W (x7_owesAnew W cn ag ho vi).2.2 := by
  unfold x7_owesAnew
  (repeat' split) <;> exact xf_rf _
theorem xf_settle (W : rb_I) (cn : Nat → Nat) (j : Nat) (p mi : Int32) : xf W (x7_settle W cn j p mi) := by
  unfold x7_settle x7_sW2 x4_init x7_sW1 x7_sW0 x7_sR
  (repeat' split) <;> (repeat (first | exact xf_rf _ | refine xf_z ?_ (Nat.le_of_ble_eq_true rfl) | refine xf_up ?_ (Nat.le_of_ble_eq_true rfl)))
theorem xf_xq {W1 W2 : rb_I} (h : xq W1 W2) : xf W2 W1 := fun r q hr => h r q (by omega) (fun z => by omega)
theorem am_of {W W' : rb_I} (h : xf W W') : am W W' := h
/-- both sides again in one world -/
theorem sx_both {f W1 M2 : rb_I} {cn : Nat → Nat} {ag : Nat → Nat → Int32} {t R : Nat} (hq : xq W1 f) (hm : mf W1 M2) (h : sx f M2 cn ag t R) : sx M2 M2 cn ag t R :=
  sx_c h (fun r q h1 h2 => (hm r q (by omega)).trans (hq r q (by omega) h2)) (fun _ _ _ => rfl)
theorem xq_rf (W : rb_I) : xq W W := fun _ _ _ _ => rfl
