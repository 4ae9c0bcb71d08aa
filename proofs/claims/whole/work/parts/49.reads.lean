theorem Rel_c {B : Int} {σ : SX} {μ : SM} : RIn B 0 0 (xs_bl σ 0) (ms_bg (ms_tp μ 0) 0) ↔ RInC B 0 0 (x_bs σ) (x_bc σ) (x_hd σ) (x_tab σ) (x_n σ) (x_qf σ) (x_qs σ) (x_qk σ) (x_qv σ) 0 (m_su μ) (m_co μ) (m_st μ) (m_so μ) (m_as μ) (m_ki μ) (m_bs μ) (m_cs μ) (m_fo μ) (m_ot μ) (m_le μ) (m_sz μ) (m_qk μ) (m_qv μ) 0 0 := by
  unfold RIn
  rw [xr_bs_bl, xr_bc_bl, xr_hd_bl, xr_tab_bl, xr_n_bl, xr_qf_bl, xr_qs_bl, xr_qk_bl, xr_qv_bl, xw_bl, mr_su_bg, mr_su_tp, mr_co_bg, mr_co_tp, mr_st_bg, mr_st_tp, mr_so_bg, mr_so_tp, mr_as_bg, mr_as_tp, mr_ki_bg, mr_ki_tp, mr_bs_bg, mr_bs_tp, mr_cs_bg, mr_cs_tp, mr_fo_bg, mr_fo_tp, mr_ot_bg, mr_ot_tp, mr_le_bg, mr_le_tp, mr_sz_bg, mr_sz_tp, mr_qk_bg, mr_qk_tp, mr_qv_bg, mr_qv_tp, mw_bg, mr_tp_bg, mw_tp]
theorem enc_lt {r : Option Nat} {n : Nat} (h : okr n r) (hn : n ≤ 202) : enc r < 0 ↔ r = none := by
  cases r with
  | none => exact ⟨fun _ => rfl, fun _ => by decide⟩
  | some j =>
    have hj := h j rfl
    exact ⟨fun e => absurd e (nI_pos (by omega)), fun e => by cases e⟩
section SIMR
variable {B : Int} {F : Nat} {σ : SX} {μ : SM}
theorem Rel_st (h : Rel B F σ μ) {k : Int32} (hk : vp_in k 10) : m_st μ k.toNatClampNeg = enc (x_hd σ k.toNatClampNeg) ∧ (enc (x_hd σ k.toNatClampNeg) < 0 ↔ x_hd σ k.toNatClampNeg = none) := by
  have c := Rel_c.mp h.1
  obtain ⟨i, hi, rfl⟩ := vp_in_of hk (by decide)
  rw [nI_clamp (by omega)]
  exact ⟨c.2.1 i hi, enc_lt (c.2.2.2.1.2.1 i) c.2.2.2.1.1⟩
theorem sim_has (h : Rel B F σ μ) (k : Int32) : xf_has k σ = mf_has k μ := by
  unfold xf_has mf_has
  rcases kindE k with ⟨c1, c2⟩ | ⟨c1, c2, c3⟩
  · rw [if_pos c1, if_pos c2]
  · rw [if_neg c1, if_neg c2]
    obtain ⟨e1, e2⟩ := Rel_st h c3
    rw [e1]
    by_cases c : x_hd σ k.toNatClampNeg = none
    · rw [if_pos c, if_pos (e2.mpr c)]
    · rw [if_neg c, if_neg (fun q => c (e2.mp q))]
theorem sim_sum (h : Rel B F σ μ) (k : Int32) : xf_sum k σ = mf_sum k μ := by
  unfold xf_sum mf_sum
  rcases boxE k with ⟨c1, c2⟩ | ⟨c1, c2, c3⟩
  · rw [if_pos c1, if_pos c2]
  · rw [if_neg c1, if_neg c2]
    obtain ⟨i, hi, rfl⟩ := vp_in_of c3 (by decide)
    rw [nI_clamp (by omega)]
    exact ((Rel_c.mp h.1).1 i hi).1
theorem sim_counted (h : Rel B F σ μ) (k : Int32) : xf_counted k σ = mf_counted k μ := by
  unfold xf_counted mf_counted
  rcases boxE k with ⟨c1, c2⟩ | ⟨c1, c2, c3⟩
  · rw [if_pos c1, if_pos c2]
  · rw [if_neg c1, if_neg c2]
    obtain ⟨i, hi, rfl⟩ := vp_in_of c3 (by decide)
    rw [nI_clamp (by omega)]
    exact ((Rel_c.mp h.1).1 i hi).2.1
theorem Rel_kp (h : Rel B F σ μ) : ∃ n, n ≤ 30 ∧ m_kp μ = nI n := by
  obtain ⟨-, ⟨-, -, -, -, f, -, -, -, q, -⟩, -⟩ := h
  exact ⟨min f 30, Nat.min_le_right _ _, q⟩
/-- a failed letter is kept under i, on both sides or on none -/
theorem keptE (h : Rel B F σ μ) (hF : F ≤ 1000000) (i : Int32) : (xf_isFailedKept i σ = 0 ∧ mf_in i 0 (m_kp μ - 1) = 0) ∨ (¬ xf_isFailedKept i σ = 0 ∧ ¬ mf_in i 0 (m_kp μ - 1) = 0 ∧ x_fk σ i.toNatClampNeg = m_kk μ i.toNatClampNeg ∧ x_fn σ i.toNatClampNeg = m_kf μ i.toNatClampNeg ∧ x_fv σ i.toNatClampNeg = m_kv μ i.toNatClampNeg) := by
  obtain ⟨-, ⟨-, -, -, -, f, f1, f2, f3, f4, f5⟩, -⟩ := h
  have e1 : (nI (min f 30) - 1).toInt = ((min f 30 : Nat) : Int) - 1 := pk_sub_toInt (a := min f 30) (b := 1) (by omega) (by omega)
  have e2 : (nI f).toInt = (f : Int) := nI_toInt (by omega)
  have e30 : (30 : Int32).toInt = 30 := by decide
  have e0 : (0 : Int32).toInt = 0 := by decide
  unfold xf_isFailedKept mf_in
  rw [f2, f4]
  simp only [Int32.lt_iff_toInt_lt, Int32.le_iff_toInt_le, e1, e2, e30, e0]
  by_cases c1 : i.toInt < 0
  · rw [if_pos c1, if_pos c1]
    exact Or.inl ⟨rfl, rfl⟩
  · rw [if_neg c1, if_neg c1]
    by_cases c2 : i.toInt < ((min f 30 : Nat) : Int)
    · have k1 : ¬ (30 : Int) ≤ i.toInt := by omega
      have k2 : ¬ (f : Int) ≤ i.toInt := by omega
      have k3 : ¬ ((min f 30 : Nat) : Int) - 1 < i.toInt := by omega
      rw [if_neg k1, if_neg k2, if_neg k3]
      have ei : i.toNatClampNeg = i.toInt.toNat := rfl
      rw [ei]
      exact Or.inr ⟨by decide, by decide, f5 _ (by omega)⟩
    · have k3 : ((min f 30 : Nat) : Int) - 1 < i.toInt := by omega
      rw [if_pos k3]
      by_cases k1 : (30 : Int) ≤ i.toInt
      · rw [if_pos k1]
        exact Or.inl ⟨rfl, rfl⟩
      · rw [if_neg k1, if_pos (by omega)]
        exact Or.inl ⟨rfl, rfl⟩
theorem sim_value (h : Rel B F σ μ) (hF : F ≤ 1000000) (i : Int32) : xf_value i σ = mf_value i μ := by
  unfold xf_value mf_value
  rcases keptE h hF i with ⟨c1, c2⟩ | ⟨c1, c2, -, -, c3⟩
  · rw [if_pos c1, if_pos c2]
  · rw [if_neg c1, if_neg c2, c3]
theorem sim_failed (h : Rel B F σ μ) (hF : F ≤ 1000000) (i what : Int32) : xf_failed i what σ = mf_failed i what μ := by
  have e0 : (0 : Int32).toInt = 0 := by decide
  have e1 : (1 : Int32).toInt = 1 := by decide
  have key : what = 0 ∨ what = 1 → ¬ mf_in what 0 1 = 0 := by
    intro q
    rcases q with rfl | rfl
    · decide
    · decide
  have key2 : ¬ what = 0 → ¬ what = 1 → mf_in what 0 1 = 0 := by
    intro q1 q2
    unfold mf_in
    by_cases c1 : what < 0
    · rw [if_pos c1]
    · rw [if_neg c1]
      by_cases c2 : 1 < what
      · rw [if_pos c2]
      · rw [Int32.lt_iff_toInt_lt, e0] at c1
        rw [Int32.lt_iff_toInt_lt, e1] at c2
        rcases (show what.toInt = 0 ∨ what.toInt = 1 by omega) with q | q
        · exact absurd (Int32.toInt_inj.mp (q.trans e0.symm)) q1
        · exact absurd (Int32.toInt_inj.mp (q.trans e1.symm)) q2
  unfold xf_failed mf_failed
  rcases keptE h hF i with ⟨c1, c2⟩ | ⟨c1, c2, c3, c4, -⟩
  · rw [if_pos c1, if_pos c2]
    by_cases w0 : what = 0
    · rw [if_pos w0, if_neg (key (Or.inl w0))]
    · rw [if_neg w0]
      by_cases w1 : what = 1
      · rw [if_pos w1, if_neg (key (Or.inr w1))]
      · rw [if_neg w1, if_pos (key2 w0 w1)]
  · rw [if_neg c1, if_neg c2, c3, c4]
    by_cases w0 : what = 0
    · rw [if_pos w0, if_neg (key (Or.inl w0))]
    · rw [if_neg w0]
      by_cases w1 : what = 1
      · rw [if_pos w1, if_neg (key (Or.inr w1)), if_neg w0]
      · rw [if_neg w1, if_pos (key2 w0 w1)]
theorem sim_count (h : Rel B F σ μ) (what : Int32) : xf_count what σ = mf_count what μ := by
  have c := Rel_c.mp h.1
  obtain ⟨f, q, -, -, q3, q4, -⟩ := c.2.2.2.2.1
  obtain ⟨-, ⟨a1, a2, a3, a4, g, -, a6, a7, -⟩, h3⟩ := h
  have e2 : m_many μ - 2 = x_told σ := by
    rw [a1, a3]
    exact pk_sub (a := x_n σ) (b := 2) a2
  unfold xf_count mf_count
  rw [q3, q4, a4, e2, a6, a7, h3]
theorem Rel_hd (h : Rel B F σ μ) {i : Nat} {r : Option Nat} (hr : okr (x_n σ) r) : Rel B F (xs_hd σ (va_up (x_hd σ) i r)) (ms_st μ (upd (m_st μ) i (enc r))) := by
  obtain ⟨h1, h2, h3⟩ := h
  refine ⟨Rel_c.mpr ?_, ?_, ?_⟩
  · rw [xr_bs_hd, xr_bc_hd, xw_hd, xr_tab_hd, xr_n_hd, xr_qf_hd, xr_qs_hd, xr_qk_hd, xr_qv_hd, mr_su_st, mr_co_st, mw_st, mr_so_st, mr_as_st, mr_ki_st, mr_bs_st, mr_cs_st, mr_fo_st, mr_ot_st, mr_le_st, mr_sz_st, mr_qk_st, mr_qv_st]
    obtain ⟨c1, c2, c3, c4, c5, c6, c7⟩ := Rel_c.mp h1
    refine ⟨c1, fun k hk => ?_, c3, ⟨c4.1, fun k => ?_, c4.2.2⟩, c5, c6, c7⟩
    · by_cases e : k = i
      · subst e
        rw [pk_us, va_up_self]
      · rw [pk_un e, va_up_ne _ _ e]
        exact c2 k hk
    · by_cases e : k = i
      · subst e
        rw [va_up_self]
        exact hr
      · rw [va_up_ne _ _ e]
        exact c4.2.1 k
  · unfold rRest
    rw [xr_n_hd, xr_told_hd, xr_tk_hd, xr_fl_hd, xr_fk_hd, xr_fn_hd, xr_fv_hd, mr_many_st, mr_tk_st, mr_fe_st, mr_kp_st, mr_kk_st, mr_kf_st, mr_kv_st]
    exact h2
  · rw [xr_bic_hd, mr_la_st]
    exact h3
theorem sim_drop (h : Rel B F σ μ) (k : Int32) : (xf_drop k σ).1 = (mf_drop k μ).1 ∧ Rel B F (xf_drop k σ).2 (mf_drop k μ).2 := by
  unfold xf_drop mf_drop
  rcases kindE k with ⟨c1, c2⟩ | ⟨c1, c2, c3⟩
  · rw [if_pos c1, if_pos c2]
    exact ⟨rfl, h⟩
  · rw [if_neg c1, if_neg c2]
    obtain ⟨e1, e2⟩ := Rel_st h c3
    have h4 := Rel_hd (i := k.toNatClampNeg) h (r := none) (fun j q => by cases q)
    by_cases c : x_hd σ k.toNatClampNeg = none
    · rw [if_pos c, if_pos (by rw [e1]; exact e2.mpr c)]
      exact ⟨rfl, h4⟩
    · rw [if_neg c, if_neg (by rw [e1]; exact fun q => c (e2.mp q))]
      exact ⟨rfl, h4⟩
end SIMR
