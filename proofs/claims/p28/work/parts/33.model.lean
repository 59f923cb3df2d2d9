theorem m_empties_o {W : rb_I} {n : Int32} {r : rb_R} {k : Nat} (h : r ≠ (14, 27, 0)) : m_empties W n r k = W r k := by
  unfold m_empties
  exact fo_inv (f := m_empties_b n) (a := W) (P := fun w : rb_I => w r k = W r k) rfl (fun i a q => by
    unfold m_empties_b
    rw [up2_n _ _ _ _ (fun e => h e.1)]
    exact q) 10
theorem m_makesContact_o {W : rb_I} {s : Int32} {r : rb_R} {k : Nat} (h1 : r ≠ (14, 27, 0)) (h2 : r ≠ (14, 6, 0)) (h3 : r ≠ (14, 21, 0)) : m_makesContact W s r k = W r k := by
  unfold m_makesContact
  repeat (any_goals split)
  all_goals simp [up2, h1, h2, h3]
theorem mi_makesContact {W : rb_I} (s : Int32) (hM : MI W) : MI (m_makesContact W s) := by
  obtain ⟨a1, a2, a3, a4, a5, a6, a7, a8, a9, a10, a11⟩ := hM
  refine ⟨fun j => ?_, fun j => ?_, fun j => ?_, fun j => ?_, fun j => ?_, fun j => ?_, ?_, ?_, ?_, ?_, fun j => ?_⟩
  · rw [m_makesContact_o (by simp) (by simp) (by simp)]; exact a1 j
  · rw [m_makesContact_o (by simp) (by simp) (by simp)]; exact a2 j
  · rw [m_makesContact_o (by simp) (by simp) (by simp)]; exact a3 j
  · unfold m_makesContact
    repeat (any_goals split)
    all_goals simp only [up2, Prod.mk.injEq]
    all_goals simp
    all_goals first | exact a4 j | (split; exact a3 _; exact a4 j)
  · rw [m_makesContact_o (by simp) (by simp) (by simp)]; exact a5 j
  · rw [m_makesContact_o (by simp) (by simp) (by simp)]; exact a6 j
  · rw [m_makesContact_o (by simp) (by simp) (by simp)]; exact a7
  · rw [m_makesContact_o (by simp) (by simp) (by simp)]; exact a8
  · rw [m_makesContact_o (by simp) (by simp) (by simp)]; exact a9
  · rw [m_makesContact_o (by simp) (by simp) (by simp)]; exact a10
  · rw [m_makesContact_o (by simp) (by simp) (by simp)]; exact a11 j
theorem m_pays_o {W : rb_I} {s m : Int32} {r : rb_R} {k : Nat} (h1 : r ≠ (14, 24, 0)) (h2 : r ≠ (14, 25, 0)) (h3 : r ≠ (14, 26, 0)) : m_pays W s m r k = W r k := by
  unfold m_pays
  repeat (any_goals split)
  all_goals simp [up2, h1, h2, h3]
theorem mi_pays {W : rb_I} (s m : Int32) (hM : MI W) : MI (m_pays W s m) := by
  unfold MI at *
  simpa [m_pays_o] using hM
def m_records (W : rb_I) (s : Int32) (its : Int32) : rb_I := (if (m_isAbroad W s) = 0 then W else (up2 (up2 (up2 (up2 (up2 (up2 (up2 W (14, 30, 0) (W (16, 0, 0) 29).toNatClampNeg (W (14, 16, 0) s.toNatClampNeg)) (14, 31, 0) (W (16, 0, 0) 29).toNatClampNeg (W (14, 19, 0) s.toNatClampNeg)) (14, 32, 0) (W (16, 0, 0) 29).toNatClampNeg its) (14, 33, 0) (W (16, 0, 0) 29).toNatClampNeg (W (16, 0, 0) 1)) (14, 34, 0) (W (16, 0, 0) 29).toNatClampNeg (m_agreement (up2 (up2 (up2 (up2 W (14, 30, 0) (W (16, 0, 0) 29).toNatClampNeg (W (14, 16, 0) s.toNatClampNeg)) (14, 31, 0) (W (16, 0, 0) 29).toNatClampNeg (W (14, 19, 0) s.toNatClampNeg)) (14, 32, 0) (W (16, 0, 0) 29).toNatClampNeg its) (14, 33, 0) (W (16, 0, 0) 29).toNatClampNeg (W (16, 0, 0) 1)) (W (14, 16, 0) s.toNatClampNeg) (W (14, 19, 0) s.toNatClampNeg))) (14, 35, 0) (W (16, 0, 0) 29).toNatClampNeg 0) (16, 0, 0) 29 ((W (16, 0, 0) 29) + 1)))
theorem mi_records {W : rb_I} (s its : Int32) (hM : MI W) (hr : vp_in (W (16, 0, 0) 29) 400) : MI (m_records W s its) := by
  have hq := hM
  obtain ⟨a1, a2, a3, a4, a5, a6, a7, a8, a9, a10, a11⟩ := hM
  have e1 : vp_in (W (16, 0, 0) 29 + 1) 401 := by
    have h1 := vp_in_lt hr
    rw [vp_in_e hr, nI_1]
    exact vp_in_nI (by omega) (by decide)
  have e2 : ∀ W', MI W' → ∀ a b, m_agreement W' a b = -1 ∨ vp_in (m_agreement W' a b) 30 := by
    intro W' hW' a b
    unfold m_agreement
    have hN := vp_in_lt hW'.2.2.2.2.2.2.1
    refine fo_inv' (f := m_agreement_b W' a b) (a := -1) (P := fun _ x => x = -1 ∨ vp_in x 30) (N := (W' (16, 0, 0) 7).toNatClampNeg) (Or.inl rfl) (fun i hi x hx => ?_) _ (Nat.le_refl _)
    unfold m_agreement_b
    repeat (any_goals split)
    all_goals first | exact hx | exact Or.inr (vp_in_nI (by omega) (by decide))
  unfold m_records
  split
  · exact hq
  · refine ⟨?_, ?_, ?_, ?_, ?_, ?_, ?_, ?_, ?_, ?_, ?_⟩
    all_goals simp only [up2, Prod.mk.injEq]
    all_goals simp
    · exact a1
    · exact a2
    · exact a3
    · exact a4
    · exact a5
    · intro r
      split
      · exact e2 _ (by unfold MI at *; simpa [up2] using hq) _ _
      · exact a6 r
    · exact a7
    · exact a8
    · exact a9
    · exact e1
    · exact a11
def m_reach_b (p : Int32) (ns : Int32) (i : Nat) (s : rb_I) : rb_I := (if (s (14, 17, 0) i) = p then (if (s (14, 19, 0) i) = (-1) then s else (if (m_isIn ns (s (14, 19, 0) i)) = 0 then (up2 s (14, 19, 0) i (-1)) else s)) else s)
def m_reach (W : rb_I) (p : Int32) (ns : Int32) : Int32 × rb_I := (if (m_isPlace p) = 0 then (0, (up2 W (16, 0, 0) 0 1)) else (if (m_in ns (0 : Int32) (63 : Int32)) = 0 then (0, (up2 W (16, 0, 0) 0 2)) else ((W (14, 2, 0) p.toNatClampNeg), (fo (m_reach_b p ns) (W (16, 0, 0) 15).toNatClampNeg (up2 (up2 W (16, 0, 0) 0 0) (14, 2, 0) p.toNatClampNeg ns)))))
def m_dead_b (n : Int32) (i : Nat) (s : rb_I) : rb_I := (if (s (14, 19, 0) i) = n then (up2 s (14, 19, 0) i (-1)) else (up2 s (14, 19, 0) i (s (14, 19, 0) i)))
def m_dead (W : rb_I) (n : Int32) (is : Int32) : Int32 × rb_I := (if (m_isNetwork n) = 0 then (0, (up2 W (16, 0, 0) 0 1)) else (if is = 0 then ((W (15, 3, 0) n.toNatClampNeg), (up2 (up2 W (16, 0, 0) 0 0) (15, 3, 0) n.toNatClampNeg is)) else ((W (15, 3, 0) n.toNatClampNeg), (fo (m_dead_b n) (W (16, 0, 0) 15).toNatClampNeg (m_empties (up2 (up2 W (16, 0, 0) 0 0) (15, 3, 0) n.toNatClampNeg is) n)))))
def m_agree (W : rb_I) (ho : Int32) (vi : Int32) (fr0 : Int32) (to0 : Int32) (pr : Int32) (th : Int32) (lw : Int32) : Int32 × rb_I := (if (m_isNetwork ho) = 0 then (if ho = vi then (0, (up2 W (16, 0, 0) 0 1)) else (if (m_in fr0 (0 : Int32) ((999999) : Int32)) = 0 then (0, (up2 W (16, 0, 0) 0 1)) else (if (m_in to0 (fr0 + 1) ((1000000) : Int32)) = 0 then (0, (up2 W (16, 0, 0) 0 1)) else (if (m_in pr (0 : Int32) (99 : Int32)) = 0 then (0, (up2 W (16, 0, 0) 0 1)) else (if (m_in th (0 : Int32) (9999 : Int32)) = 0 then (0, (up2 W (16, 0, 0) 0 1)) else (if (m_in lw (0 : Int32) pr) = 0 then (0, (up2 W (16, 0, 0) 0 1)) else (0, (up2 W (16, 0, 0) 0 1)))))))) else (if (m_isNetwork vi) = 0 then (if ho = vi then (0, (up2 W (16, 0, 0) 0 1)) else (if (m_in fr0 (0 : Int32) ((999999) : Int32)) = 0 then (0, (up2 W (16, 0, 0) 0 1)) else (if (m_in to0 (fr0 + 1) ((1000000) : Int32)) = 0 then (0, (up2 W (16, 0, 0) 0 1)) else (if (m_in pr (0 : Int32) (99 : Int32)) = 0 then (0, (up2 W (16, 0, 0) 0 1)) else (if (m_in th (0 : Int32) (9999 : Int32)) = 0 then (0, (up2 W (16, 0, 0) 0 1)) else (if (m_in lw (0 : Int32) pr) = 0 then (0, (up2 W (16, 0, 0) 0 1)) else (0, (up2 W (16, 0, 0) 0 1)))))))) else (if ho = vi then (0, (up2 W (16, 0, 0) 0 2)) else (if (m_in fr0 (0 : Int32) ((999999) : Int32)) = 0 then (0, (up2 W (16, 0, 0) 0 2)) else (if (m_in to0 (fr0 + 1) ((1000000) : Int32)) = 0 then (0, (up2 W (16, 0, 0) 0 2)) else (if (m_in pr (0 : Int32) (99 : Int32)) = 0 then (0, (up2 W (16, 0, 0) 0 2)) else (if (m_in th (0 : Int32) (9999 : Int32)) = 0 then (0, (up2 W (16, 0, 0) 0 2)) else (if (m_in lw (0 : Int32) pr) = 0 then (0, (up2 W (16, 0, 0) 0 2)) else (if (W (16, 0, 0) 7) = 30 then (0, (up2 W (16, 0, 0) 0 3)) else (((W (16, 0, 0) 7) + 1), (up2 (up2 (up2 (up2 (up2 (up2 (up2 (up2 (up2 W (16, 0, 0) 0 0) (14, 8, 0) (W (16, 0, 0) 7).toNatClampNeg ho) (14, 9, 0) (W (16, 0, 0) 7).toNatClampNeg vi) (14, 10, 0) (W (16, 0, 0) 7).toNatClampNeg fr0) (14, 11, 0) (W (16, 0, 0) 7).toNatClampNeg to0) (14, 12, 0) (W (16, 0, 0) 7).toNatClampNeg pr) (14, 13, 0) (W (16, 0, 0) 7).toNatClampNeg th) (14, 14, 0) (W (16, 0, 0) 7).toNatClampNeg lw) (16, 0, 0) 7 ((W (16, 0, 0) 7) + 1))))))))))))
def m_steer (W : rb_I) (ho : Int32) (n : Int32) : Int32 × rb_I := (if (m_isNetwork ho) = 0 then (0, (up2 W (16, 0, 0) 0 1)) else (if n = (-1) then (if n = ho then (0, (up2 W (16, 0, 0) 0 2)) else ((W (14, 4, 0) ho.toNatClampNeg), (up2 (up2 W (16, 0, 0) 0 0) (14, 4, 0) ho.toNatClampNeg n))) else (if (m_isNetwork n) = 0 then (0, (up2 W (16, 0, 0) 0 1)) else (if n = ho then (0, (up2 W (16, 0, 0) 0 2)) else ((W (14, 4, 0) ho.toNatClampNeg), (up2 (up2 W (16, 0, 0) 0 0) (14, 4, 0) ho.toNatClampNeg n))))))
def m_prices (W : rb_I) (ho : Int32) (ah : Int32) (ab : Int32) (ca : Int32) : rb_I := (if (m_isNetwork ho) = 0 then (up2 W (16, 0, 0) 0 1) else (if (m_in ah (0 : Int32) (99 : Int32)) = 0 then (up2 W (16, 0, 0) 0 2) else (if (m_in ab (0 : Int32) (99 : Int32)) = 0 then (up2 W (16, 0, 0) 0 2) else (if (m_in ca (0 : Int32) (99 : Int32)) = 0 then (up2 W (16, 0, 0) 0 2) else (up2 (up2 (up2 (up2 W (16, 0, 0) 0 0) (14, 5, 0) (3 * ho.toNatClampNeg + 0) ah) (14, 5, 0) (3 * ho.toNatClampNeg + 1) ab) (14, 5, 0) (3 * ho.toNatClampNeg + 2) ca)))))
def m_lose (W : rb_I) (n : Int32) (many : Int32) : Int32 × rb_I := (if (m_isNetwork n) = 0 then (0, (up2 W (16, 0, 0) 0 1)) else (if (m_in many (0 : Int32) (9 : Int32)) = 0 then (0, (up2 W (16, 0, 0) 0 2)) else ((W (14, 6, 0) n.toNatClampNeg), (up2 (up2 W (16, 0, 0) 0 0) (14, 6, 0) n.toNatClampNeg many))))
def m_crash_b (W : rb_I) (n : Int32) (i : Nat) (s : Int32) : Int32 := (if (W (14, 27, 0) (10 * n.toNatClampNeg + i)) = (-1) then (s + 0) else (s + 1))
def m_crash (W : rb_I) (n : Int32) : Int32 × rb_I := (if (m_isNetwork n) = 0 then (0, (up2 W (16, 0, 0) 0 1)) else ((fo (m_crash_b W n) 10 (0 : Int32)), (m_empties (up2 W (16, 0, 0) 0 0) n)))
def m_subscriber (W : rb_I) (ho : Int32) (pl : Int32) (fo0 : Int32) : Int32 × rb_I := (if (m_isNetwork ho) = 0 then (0, (up2 W (16, 0, 0) 0 1)) else (if (m_isPlace pl) = 0 then (0, (up2 W (16, 0, 0) 0 1)) else (if (m_in fo0 (0 : Int32) (63 : Int32)) = 0 then (0, (up2 W (16, 0, 0) 0 2)) else (if (W (16, 0, 0) 15) = 10 then (0, (up2 W (16, 0, 0) 0 3)) else ((((W (16, 0, 0) 15) + 1) - 1), (up2 (up2 (up2 (up2 (up2 (up2 (up2 (up2 W (16, 0, 0) 0 0) (14, 16, 0) (W (16, 0, 0) 15).toNatClampNeg ho) (14, 17, 0) (W (16, 0, 0) 15).toNatClampNeg pl) (14, 18, 0) (W (16, 0, 0) 15).toNatClampNeg fo0) (14, 19, 0) (W (16, 0, 0) 15).toNatClampNeg (-1)) (14, 21, 0) (W (16, 0, 0) 15).toNatClampNeg (-1)) (14, 22, 0) (W (16, 0, 0) 15).toNatClampNeg 5000) (16, 0, 0) 15 ((W (16, 0, 0) 15) + 1)))))))
def m_move (W : rb_I) (s : Int32) (p : Int32) : Int32 × rb_I := (if (m_isSubscriber W s) = 0 then (0, (up2 W (16, 0, 0) 0 1)) else (if (m_isPlace p) = 0 then (0, (up2 W (16, 0, 0) 0 1)) else (if (W (14, 19, 0) s.toNatClampNeg) = (-1) then ((W (14, 19, 0) s.toNatClampNeg), (up2 (up2 (up2 W (16, 0, 0) 0 0) (14, 17, 0) s.toNatClampNeg p) (14, 20, 0) s.toNatClampNeg 0)) else (if (m_isIn (W (14, 2, 0) p.toNatClampNeg) (W (14, 19, 0) s.toNatClampNeg)) = 0 then ((-1), (up2 (up2 (up2 (up2 W (16, 0, 0) 0 0) (14, 17, 0) s.toNatClampNeg p) (14, 20, 0) s.toNatClampNeg 0) (14, 19, 0) s.toNatClampNeg (-1))) else ((W (14, 19, 0) s.toNatClampNeg), (up2 (up2 (up2 W (16, 0, 0) 0 0) (14, 17, 0) s.toNatClampNeg p) (14, 20, 0) s.toNatClampNeg 0))))))
def m_off (W : rb_I) (s : Int32) : Int32 × rb_I := (if (m_isSubscriber W s) = 0 then (0, (up2 W (16, 0, 0) 0 1)) else ((W (14, 19, 0) s.toNatClampNeg), (up2 (up2 W (16, 0, 0) 0 0) (14, 19, 0) s.toNatClampNeg (-1))))
def m_where (W : rb_I) (s : Int32) : Int32 × rb_I := (if (m_isSubscriber W s) = 0 then (0, (up2 W (16, 0, 0) 0 1)) else ((W (14, 21, 0) s.toNatClampNeg), (up2 W (16, 0, 0) 0 0)))
def m_paidAnew (W : rb_I) (s : Int32) : Int32 × rb_I := (if (m_isSubscriber W s) = 0 then (0, (up2 W (16, 0, 0) 0 1)) else ((W (14, 24, 0) s.toNatClampNeg), (up2 W (16, 0, 0) 0 0)))
def m_contact (W : rb_I) (n : Int32) (s : Int32) : Int32 × rb_I := (if (m_isNetwork n) = 0 then (0, (up2 W (16, 0, 0) 0 1)) else (if (m_isSubscriber W s) = 0 then (0, (up2 W (16, 0, 0) 0 1)) else ((W (14, 27, 0) (10 * n.toNatClampNeg + s.toNatClampNeg)), (up2 W (16, 0, 0) 0 0))))