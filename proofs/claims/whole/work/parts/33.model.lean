theorem m_empties_o {W : rb_I} {n : Int32} {r : rb_R} {k : Nat} (h : r ≠ (14, 27, 0)) : m_empties W n r k = W r k := by
  unfold m_empties
  sorry
