def m_file_b (W : rb_I) (vi : Int32) (ho : Int32) (i : Nat) (s : rb_I) : rb_I := (if (m_isOf s (nI i) vi ho) = 0 then s else (if (s (14, 35, 0) i) = 0 then (up2 (up2 s (14, 35, 0) i 1) (14, 36, 0) i (W (14, 37, 0) (6 * vi.toNatClampNeg + ho.toNatClampNeg))) else s))
def m_file (W : rb_I) (vi : Int32) (ho : Int32) : Int32 × rb_I := (if (m_isNetwork vi) = 0 then (0, (up2 W (16, 0, 0) 0 1)) else (if (m_isNetwork ho) = 0 then (0, (up2 W (16, 0, 0) 0 1)) else (if (m_minutesOf (up2 W (16, 0, 0) 0 0) vi ho (0 : Int32)) = 0 then (0, (up2 (up2 W (16, 0, 0) 0 0) (16, 0, 0) 0 2)) else (if (W (14, 37, 0) (6 * vi.toNatClampNeg + ho.toNatClampNeg)) = 20 then (0, (up2 (up2 W (16, 0, 0) 0 0) (16, 0, 0) 0 2)) else ((W (14, 37, 0) (6 * vi.toNatClampNeg + ho.toNatClampNeg)), (up2 (fo (m_file_b W vi ho) (W (16, 0, 0) 29).toNatClampNeg (up2 (up2 W (16, 0, 0) 0 0) (16, 0, 0) 0 0)) (14, 37, 0) (6 * vi.toNatClampNeg + ho.toNatClampNeg) (((fo (m_file_b W vi ho) (W (16, 0, 0) 29).toNatClampNeg (up2 (up2 W (16, 0, 0) 0 0) (16, 0, 0) 0 0)) (14, 37, 0) (6 * vi.toNatClampNeg + ho.toNatClampNeg)) + 1)))))))
def m_deliver_b (vi : Int32) (ho : Int32) (fl : Int32) (i : Nat) (s : Int32 × rb_I) : Int32 × rb_I := (if (m_isOf s.2 (nI i) vi ho) = 0 then (s.1, s.2) else (if (s.2 (14, 35, 0) i) = 1 then (if (s.2 (14, 36, 0) i) = fl then (if ((s.2 (16, 0, 0) 1) - (s.2 (14, 33, 0) i)) < (43200) then ((s.1 + 0), (up2 s.2 (14, 35, 0) i 2)) else ((s.1 + 1), (up2 s.2 (14, 35, 0) i 3))) else (s.1, s.2)) else (s.1, s.2)))
def m_deliver (W : rb_I) (vi : Int32) (ho : Int32) (fl : Int32) : Int32 × rb_I := (if (m_isNetwork vi) = 0 then (0, (up2 W (16, 0, 0) 0 1)) else (if (m_isNetwork ho) = 0 then (0, (up2 W (16, 0, 0) 0 1)) else (if (m_in fl (0 : Int32) ((W (14, 37, 0) (6 * vi.toNatClampNeg + ho.toNatClampNeg)) - 1)) = 0 then (0, (up2 W (16, 0, 0) 0 1)) else (if fl = (W (14, 38, 0) (6 * vi.toNatClampNeg + ho.toNatClampNeg)) then ((fo (m_deliver_b vi ho fl) (W (16, 0, 0) 29).toNatClampNeg ((0 : Int32), (up2 (up2 W (16, 0, 0) 0 0) (14, 38, 0) (6 * vi.toNatClampNeg + ho.toNatClampNeg) ((W (14, 38, 0) (6 * vi.toNatClampNeg + ho.toNatClampNeg)) + 1)))).1, (fo (m_deliver_b vi ho fl) (W (16, 0, 0) 29).toNatClampNeg ((0 : Int32), (up2 (up2 W (16, 0, 0) 0 0) (14, 38, 0) (6 * vi.toNatClampNeg + ho.toNatClampNeg) ((W (14, 38, 0) (6 * vi.toNatClampNeg + ho.toNatClampNeg)) + 1)))).2) else (if (W (14, 38, 0) (6 * vi.toNatClampNeg + ho.toNatClampNeg)) ≤ fl then ((-2), (up2 W (16, 0, 0) 0 0)) else ((-1), (up2 W (16, 0, 0) 0 0)))))))
def m_owes_b (W : rb_I) (ho : Int32) (vi : Int32) (i : Nat) (s : Int32) : Int32 := (if (m_isOf (up2 W (16, 0, 0) 0 0) (nI i) vi ho) = 0 then (s + 0) else (if (W (14, 35, 0) i) = 2 then (s + ((W (14, 32, 0) i) * (m_priceOf (up2 W (16, 0, 0) 0 0) (W (14, 34, 0) i) (m_minutesOf (up2 W (16, 0, 0) 0 0) vi ho (2 : Int32))))) else (s + 0)))
def m_owes (W : rb_I) (ho : Int32) (vi : Int32) : Int32 × rb_I := (if (m_isNetwork ho) = 0 then (if (W (16, 0, 0) 29) ≤ 0 then (0, (up2 W (16, 0, 0) 0 1)) else (0, (up2 W (16, 0, 0) 0 1))) else (if (m_isNetwork vi) = 0 then (if (W (16, 0, 0) 29) ≤ 0 then (0, (up2 W (16, 0, 0) 0 1)) else (0, (up2 W (16, 0, 0) 0 1))) else ((fo (m_owes_b W ho vi) (W (16, 0, 0) 29).toNatClampNeg (0 : Int32)), (up2 W (16, 0, 0) 0 0))))
def m_owesAnew (W : rb_I) (ho : Int32) (vi : Int32) : Int32 × rb_I := ((m_owes W ho vi).1, (m_owes W ho vi).2)
def m_recorded (W : rb_I) (vi : Int32) (ho : Int32) (what : Int32) : Int32 × rb_I := (if (m_isNetwork vi) = 0 then (0, (up2 W (16, 0, 0) 0 1)) else (if (m_isNetwork ho) = 0 then (0, (up2 W (16, 0, 0) 0 1)) else (if (m_in what (0 : Int32) (3 : Int32)) = 0 then (0, (up2 W (16, 0, 0) 0 2)) else ((m_minutesOf (up2 W (16, 0, 0) 0 0) vi ho what), (up2 W (16, 0, 0) 0 0)))))
def m_begins_c  (i : Nat) (s : rb_I) : rb_I := (if (s (14, 27, 0) i) = (-1) then (up2 s (14, 27, 0) i (s (14, 27, 0) i)) else (if ((s (16, 0, 0) 1) - (s (14, 27, 0) i)) < 180 then (up2 s (14, 27, 0) i (s (14, 27, 0) i)) else (up2 s (14, 27, 0) i (-1))))
def m_begins_b  (i : Nat) (s : rb_I) : rb_I := (if (s (14, 19, 0) i) = (-1) then s else (m_makesContact s (nI i)))
def m_begins (W : rb_I)  : rb_I := (fo m_begins_c 60 (fo m_begins_b (W (16, 0, 0) 15).toNatClampNeg W))
theorem mi_begins {W : rb_I} (hM : MI W) : MI (m_begins W) := by
  have h1 : MI (fo m_begins_b (W (16, 0, 0) 15).toNatClampNeg W) := fo_inv (f := m_begins_b) (a := W) (P := MI) hM (fun i a h => by unfold m_begins_b; split; exact h; exact mi_makesContact _ h) _
  unfold m_begins
  refine fo_inv (f := m_begins_c) (P := MI) h1 (fun i a h => ?_) 60
  unfold m_begins_c
  unfold MI at *
  repeat (any_goals split)
  all_goals simpa [up2] using h
theorem m_begins_o {W : rb_I} {k : Nat} : m_begins W (16, 0, 0) k = W (16, 0, 0) k := by
  have h1 : fo m_begins_b (W (16, 0, 0) 15).toNatClampNeg W (16, 0, 0) k = W (16, 0, 0) k := fo_inv (f := m_begins_b) (a := W) (P := fun w => w (16, 0, 0) k = W (16, 0, 0) k) rfl (fun i a h => by unfold m_begins_b; split; exact h; rw [m_makesContact_o (by simp) (by simp) (by simp)]; exact h) _
  unfold m_begins
  refine fo_inv (f := m_begins_c) (P := fun w => w (16, 0, 0) k = W (16, 0, 0) k) h1 (fun i a h => ?_) 60
  unfold m_begins_c
  repeat (any_goals split)
  all_goals simpa [up2] using h
theorem in1_of {x : Int32} (h : ¬ m_in x 1 50000 = 0) : vp_in x 50001 := by
  unfold m_in at h
  split at h
  · exact absurd rfl h
  · split at h
    · exact absurd rfl h
    · rename_i h1 h2
      refine in_of (low := 0) (high := 50000) (by decide) rfl ?_
      unfold m_in
      have h3 : ¬ x < 0 := fun q => h1 (Int32.lt_trans q (by decide))
      rw [if_neg h3, if_neg h2]
      decide
def m_pass_b  (i : Nat) (s : rb_I) : rb_I := (if (((s (16, 0, 0) 1) + 1) - ((s (16, 0, 0) 1) + 1) / 60 * 60) = 0 then (m_begins (up2 s (16, 0, 0) 1 ((s (16, 0, 0) 1) + 1))) else (up2 s (16, 0, 0) 1 ((s (16, 0, 0) 1) + 1)))
def m_pass (W : rb_I) (mins : Int32) : Int32 × rb_I := (if (m_in mins (1 : Int32) ((50000) : Int32)) = 0 then (if mins ≤ 0 then (0, (up2 W (16, 0, 0) 0 1)) else (0, (up2 W (16, 0, 0) 0 1))) else (if ((W (16, 0, 0) 1) + mins) ≤ (999999) then (((fo m_pass_b mins.toNatClampNeg (up2 W (16, 0, 0) 0 0)) (16, 0, 0) 1), (fo m_pass_b mins.toNatClampNeg (up2 W (16, 0, 0) 0 0))) else (if mins ≤ 0 then (0, (up2 W (16, 0, 0) 0 2)) else (0, (up2 W (16, 0, 0) 0 2)))))