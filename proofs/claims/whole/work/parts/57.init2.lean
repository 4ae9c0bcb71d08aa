theorem xI_n : x_n xInit = 2 := by
  unfold xInit x01
  rw [xPush_n, xPush_n]
  rfl
theorem xI_tab0 : x_tab xInit 0 = (0, 0, 0, 0, 0, none, none, 0) := rfl
theorem xI_tab1 : x_tab xInit 1 = (1, 12, 1, 0, -1, none, none, 0) := rfl
theorem mI : ∃ S : Nat → Int32, mInit = ms_st (ms_many (ms_as (ms_so (ms_so m00 (upd (m_so m00) ((0 : Int32).toNatClampNeg) 0)) (upd (upd (m_so m00) ((0 : Int32).toNatClampNeg) 0) ((1 : Int32).toNatClampNeg) 12)) (upd (m_as m00) ((1 : Int32).toNatClampNeg) 1)) 2) S ∧ ∀ i, i < 10 → S i = if i < 2 then nI i else -1 := by
  obtain ⟨S, g1, g2⟩ := stands_spec 11 0 (ms_many (ms_as (ms_so (ms_so m00 (upd (m_so m00) ((0 : Int32).toNatClampNeg) 0)) (upd (upd (m_so m00) ((0 : Int32).toNatClampNeg) 0) ((1 : Int32).toNatClampNeg) 12)) (upd (m_as m00) ((1 : Int32).toNatClampNeg) 1)) 2) (by omega) (by omega)
  exact ⟨S, g1, fun i hi => (g2 i).trans (if_pos (by omega))⟩
