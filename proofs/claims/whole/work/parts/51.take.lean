theorem ms_qq (μ : SM) (a c : Nat → Int32) (b d : Nat → Int64) : ms_qv (ms_qk (ms_qv (ms_qk μ a) b) c) d = ms_qv (ms_qk μ c) d := by
  simp only [ms_qv, ms_qk]
theorem ms_qe (μ : SM) : ms_qv (ms_qk μ (m_qk μ)) (m_qv μ) = μ := by
  obtain ⟨a0, a1, a2, a3, a4, a5, a6, a7, a8, a9, a10, a11, a12, a13, a14, a15, a16, a17, a18, a19, a20, a21, a22, a23, a24, a25, a26, a27⟩ := μ
  simp only [ms_qv, ms_qk, m_qk, m_qv]
theorem shift_spec : ∀ (f j s : Nat) (μ : SM), m_sz μ = nI s → s ≤ 39 → j ≤ s → s < j + f → ∃ (QK : Nat → Int32) (QV : Nat → Int64), mf_shift f (nI j) μ = ms_qv (ms_qk μ QK) QV ∧ (∀ i, QK i = if j ≤ i ∧ i < s then m_qk μ (i + 1) else m_qk μ i) ∧ (∀ i, QV i = if j ≤ i ∧ i < s then m_qv μ (i + 1) else m_qv μ i) := by
  intro f
  induction f with
  | zero => intro j s μ h1 h2 h3 h4; omega
  | succ f ih =>
    intro j s μ h1 h2 h3 h4
    show ∃ (QK : Nat → Int32) (QV : Nat → Int64), (if m_sz μ ≤ nI j then μ else mf_shift f (nI j + 1) (ms_qv (ms_qk μ (upd (m_qk μ) (nI j).toNatClampNeg (m_qk μ (nI j + 1).toNatClampNeg))) (vp_updL (m_qv μ) (nI j).toNatClampNeg (m_qv μ (nI j + 1).toNatClampNeg)))) = ms_qv (ms_qk μ QK) QV ∧ _
    by_cases c : j = s
    · subst c
      rw [if_pos (by rw [h1]; exact nI_le (Nat.le_refl j) (by omega))]
      exact ⟨m_qk μ, m_qv μ, (ms_qe μ).symm, fun i => (if_neg (by omega)).symm, fun i => (if_neg (by omega)).symm⟩
    · rw [if_neg (by rw [h1]; exact nI_ge (by omega) (by omega)), nI_1, nI_clamp (by omega), nI_clamp (by omega)]
      obtain ⟨QK, QV, g1, g2, g3⟩ := ih (j + 1) s (ms_qv (ms_qk μ (upd (m_qk μ) j (m_qk μ (j + 1)))) (vp_updL (m_qv μ) j (m_qv μ (j + 1)))) (by rw [mr_sz_qv, mr_sz_qk]; exact h1) h2 (by omega) (by omega)
      rw [mr_qk_qv, mw_qk] at g2
      rw [mw_qv] at g3
      refine ⟨QK, QV, g1.trans (ms_qq _ _ _ _ _), fun i => ?_, fun i => ?_⟩
      · rw [g2 i]
        by_cases e1 : i = j
        · subst e1
          rw [if_neg (by omega), if_pos (by omega), pk_us]
        · by_cases e2 : j + 1 ≤ i ∧ i < s
          · rw [if_pos e2, if_pos (by omega), pk_un (by omega)]
          · rw [if_neg e2, if_neg (by omega), pk_un e1]
      · rw [g3 i]
        by_cases e1 : i = j
        · subst e1
          rw [if_neg (by omega), if_pos (by omega), pk_uLs]
        · by_cases e2 : j + 1 ≤ i ∧ i < s
          · rw [if_pos e2, if_pos (by omega), pk_uLn (by omega)]
          · rw [if_neg e2, if_neg (by omega), pk_uLn e1]
section SIMT
variable {B : Int} {F : Nat} {σ : SX} {μ : SM}
/-- the first letter leaves the queue -/
theorem Rel_take1 (h : Rel B F σ μ) {f q : Nat} (q1 : x_qf σ = nI f) (q2 : f < 40) (q3 : x_qs σ = nI (q + 1)) (q4 : m_sz μ = nI (q + 1)) (q5 : q + 1 ≤ 40) (q6 : ∀ i, i < q + 1 → x_qk σ ((f + i) % 40) = m_qk μ i ∧ x_qv σ ((f + i) % 40) = m_qv μ i ∧ vp_in (m_qk μ i) 10) {QK : Nat → Int32} {QV : Nat → Int64} (g2 : ∀ i, QK i = if 0 ≤ i ∧ i < q then m_qk μ (i + 1) else m_qk μ i) (g3 : ∀ i, QV i = if 0 ≤ i ∧ i < q then m_qv μ (i + 1) else m_qv μ i) (w : Int32) (hw : w = x_tk σ + 1) (hw2 : w = m_tk μ + 1) (z : Int32) (hz : z = nI ((f + 1) % 40)) (y : Int32) (hy : y = nI q) : Rel B F (xs_tk (xs_qs (xs_qf σ z) y) w) (ms_tk (ms_qv (ms_qk (ms_sz μ y) QK) QV) w) := by
  refine ⟨Rel_c.mpr ?_, ?_, ?_⟩
  · rw [xr_bs_tk, xr_bs_qs, xr_bs_qf, xr_bc_tk, xr_bc_qs, xr_bc_qf, xr_hd_tk, xr_hd_qs, xr_hd_qf, xr_tab_tk, xr_tab_qs, xr_tab_qf, xr_n_tk, xr_n_qs, xr_n_qf, xr_qf_tk, xr_qf_qs, xw_qf, xr_qs_tk, xw_qs, xr_qk_tk, xr_qk_qs, xr_qk_qf, xr_qv_tk, xr_qv_qs, xr_qv_qf, mr_su_tk, mr_su_qv, mr_su_qk, mr_su_sz, mr_co_tk, mr_co_qv, mr_co_qk, mr_co_sz, mr_st_tk, mr_st_qv, mr_st_qk, mr_st_sz, mr_so_tk, mr_so_qv, mr_so_qk, mr_so_sz, mr_as_tk, mr_as_qv, mr_as_qk, mr_as_sz, mr_ki_tk, mr_ki_qv, mr_ki_qk, mr_ki_sz, mr_bs_tk, mr_bs_qv, mr_bs_qk, mr_bs_sz, mr_cs_tk, mr_cs_qv, mr_cs_qk, mr_cs_sz, mr_fo_tk, mr_fo_qv, mr_fo_qk, mr_fo_sz, mr_ot_tk, mr_ot_qv, mr_ot_qk, mr_ot_sz, mr_le_tk, mr_le_qv, mr_le_qk, mr_le_sz, mr_sz_tk, mr_sz_qv, mr_sz_qk, mw_sz, mr_qk_tk, mr_qk_qv, mw_qk, mr_qv_tk, mw_qv]
    obtain ⟨c1, c2, c3, c4, c5, c6⟩ := Rel_c.mp h.1
    refine ⟨c1, c2, c3, c4, ⟨(f + 1) % 40, q, hz, by omega, hy, hy, by omega, fun i hi => ?_⟩, c6⟩
    rw [g2 i, g3 i, if_pos (by omega), if_pos (by omega), show ((f + 1) % 40 + i) % 40 = (f + (i + 1)) % 40 by omega]
    exact q6 (i + 1) (by omega)
  · obtain ⟨a1, a2, a3, a4, a5⟩ := h.2.1
    unfold rRest
    rw [xr_n_tk, xr_n_qs, xr_n_qf, xr_told_tk, xr_told_qs, xr_told_qf, xw_tk, xr_fl_tk, xr_fl_qs, xr_fl_qf, xr_fk_tk, xr_fk_qs, xr_fk_qf, xr_fn_tk, xr_fn_qs, xr_fn_qf, xr_fv_tk, xr_fv_qs, xr_fv_qf, mr_many_tk, mr_many_qv, mr_many_qk, mr_many_sz, mw_tk, mr_fe_tk, mr_fe_qv, mr_fe_qk, mr_fe_sz, mr_kp_tk, mr_kp_qv, mr_kp_qk, mr_kp_sz, mr_kk_tk, mr_kk_qv, mr_kk_qk, mr_kk_sz, mr_kf_tk, mr_kf_qv, mr_kf_qk, mr_kf_sz, mr_kv_tk, mr_kv_qv, mr_kv_qk, mr_kv_sz]
    exact ⟨a1, a2, a3, rfl, a5⟩
  · rw [xr_bic_tk, xr_bic_qs, xr_bic_qf, mr_la_tk, mr_la_qv, mr_la_qk, mr_la_sz]
    exact h.2.2
theorem Rel_fail (h : Rel B F σ μ) (hF : F ≤ 1000000) (k : Int32) (v : Int64) : Rel B (F + 1) (xf_noteFailed k v (m_fa μ) σ) (mf_falls k v μ) ∧ (¬ 30 ≤ m_kp μ → vp_in (m_kp μ) 30) := by
  obtain ⟨h1, ⟨a1, a2, a3, a4, f, f1, f2, f3, f4, f5⟩, h3⟩ := h
  have c0 : ¬ x_fl σ < 0 := by rw [f2]; exact nI_pos (by omega)
  have e1 : (30 : Int32) = nI 30 := rfl
  unfold xf_noteFailed mf_falls
  rw [if_neg c0]
  by_cases c : 30 ≤ f
  · have k1 : (30 : Int32) ≤ x_fl σ := by rw [f2, e1]; exact nI_le c (by omega)
    have k2 : (30 : Int32) ≤ m_kp μ := by rw [f4, e1]; exact nI_le (by omega) (by omega)
    rw [if_pos k1, if_pos k2]
    refine ⟨⟨Rel_c.mpr ?_, ?_, ?_⟩, fun q => absurd k2 q⟩
    · rw [xr_bs_fl, xr_bc_fl, xr_hd_fl, xr_tab_fl, xr_n_fl, xr_qf_fl, xr_qs_fl, xr_qk_fl, xr_qv_fl, mr_su_fe, mr_co_fe, mr_st_fe, mr_so_fe, mr_as_fe, mr_ki_fe, mr_bs_fe, mr_cs_fe, mr_fo_fe, mr_ot_fe, mr_le_fe, mr_sz_fe, mr_qk_fe, mr_qv_fe]
      exact Rel_c.mp h1
    · unfold rRest
      rw [xr_n_fl, xr_told_fl, xr_tk_fl, xw_fl, xr_fk_fl, xr_fn_fl, xr_fv_fl, mr_many_fe, mr_tk_fe, mw_fe, mr_kp_fe, mr_kk_fe, mr_kf_fe, mr_kv_fe]
      exact ⟨a1, a2, a3, a4, f + 1, by omega, by rw [f2, nI_1], by rw [f3, nI_1], by rw [f4]; congr 1; omega, fun i hi => f5 i (by omega)⟩
    · rw [xr_bic_fl, mr_la_fe]
      exact h3
  · have m1 : min f 30 = f := by omega
    rw [m1] at f4 f5
    have k1 : ¬ (30 : Int32) ≤ x_fl σ := by rw [f2, e1]; exact nI_ge (by omega) (by decide)
    have k2 : ¬ (30 : Int32) ≤ m_kp μ := by rw [f4, e1]; exact nI_ge (by omega) (by decide)
    rw [if_neg k1, if_neg k2]
    have ef : (x_fl σ).toNatClampNeg = f := by rw [f2]; exact nI_clamp (by omega)
    have ek : (m_kp μ).toNatClampNeg = f := by rw [f4]; exact nI_clamp (by omega)
    rw [ef, ek]
    refine ⟨⟨Rel_c.mpr ?_, ?_, ?_⟩, fun _ => by rw [f4]; exact vp_in_nI (by omega) (by decide)⟩
    · rw [xr_bs_fv, xr_bs_fn, xr_bs_fk, xr_bs_fl, xr_bc_fv, xr_bc_fn, xr_bc_fk, xr_bc_fl, xr_hd_fv, xr_hd_fn, xr_hd_fk, xr_hd_fl, xr_tab_fv, xr_tab_fn, xr_tab_fk, xr_tab_fl, xr_n_fv, xr_n_fn, xr_n_fk, xr_n_fl, xr_qf_fv, xr_qf_fn, xr_qf_fk, xr_qf_fl, xr_qs_fv, xr_qs_fn, xr_qs_fk, xr_qs_fl, xr_qk_fv, xr_qk_fn, xr_qk_fk, xr_qk_fl, xr_qv_fv, xr_qv_fn, xr_qv_fk, xr_qv_fl, mr_su_kp, mr_su_kv, mr_su_kf, mr_su_kk, mr_su_fe, mr_co_kp, mr_co_kv, mr_co_kf, mr_co_kk, mr_co_fe, mr_st_kp, mr_st_kv, mr_st_kf, mr_st_kk, mr_st_fe, mr_so_kp, mr_so_kv, mr_so_kf, mr_so_kk, mr_so_fe, mr_as_kp, mr_as_kv, mr_as_kf, mr_as_kk, mr_as_fe, mr_ki_kp, mr_ki_kv, mr_ki_kf, mr_ki_kk, mr_ki_fe, mr_bs_kp, mr_bs_kv, mr_bs_kf, mr_bs_kk, mr_bs_fe, mr_cs_kp, mr_cs_kv, mr_cs_kf, mr_cs_kk, mr_cs_fe, mr_fo_kp, mr_fo_kv, mr_fo_kf, mr_fo_kk, mr_fo_fe, mr_ot_kp, mr_ot_kv, mr_ot_kf, mr_ot_kk, mr_ot_fe, mr_le_kp, mr_le_kv, mr_le_kf, mr_le_kk, mr_le_fe, mr_sz_kp, mr_sz_kv, mr_sz_kf, mr_sz_kk, mr_sz_fe, mr_qk_kp, mr_qk_kv, mr_qk_kf, mr_qk_kk, mr_qk_fe, mr_qv_kp, mr_qv_kv, mr_qv_kf, mr_qv_kk, mr_qv_fe]
      exact Rel_c.mp h1
    · unfold rRest
      rw [xr_n_fv, xr_n_fn, xr_n_fk, xr_n_fl, xr_told_fv, xr_told_fn, xr_told_fk, xr_told_fl, xr_tk_fv, xr_tk_fn, xr_tk_fk, xr_tk_fl, xr_fl_fv, xr_fl_fn, xr_fl_fk, xw_fl, xr_fk_fv, xr_fk_fn, xw_fk, xr_fn_fv, xw_fn, xw_fv, mr_many_kp, mr_many_kv, mr_many_kf, mr_many_kk, mr_many_fe, mr_tk_kp, mr_tk_kv, mr_tk_kf, mr_tk_kk, mr_tk_fe, mr_fe_kp, mr_fe_kv, mr_fe_kf, mr_fe_kk, mw_fe, mw_kp, mr_kk_kp, mr_kk_kv, mr_kk_kf, mw_kk, mr_kf_kp, mr_kf_kv, mw_kf, mr_kv_kp, mw_kv]
      refine ⟨a1, a2, a3, a4, f + 1, by omega, by rw [f2, nI_1], by rw [f3, nI_1], by rw [f4, nI_1]; congr 1; omega, fun i hi => ?_⟩
      by_cases e : i = f
      · subst e
        rw [pk_us, pk_us, pk_us, pk_us, pk_uLs, pk_uLs]
        exact ⟨rfl, rfl, rfl⟩
      · rw [pk_un e, pk_un e, pk_un e, pk_un e, pk_uLn e, pk_uLn e]
        exact f5 i (by omega)
    · rw [xr_bic_fv, xr_bic_fn, xr_bic_fk, xr_bic_fl, mr_la_kp, mr_la_kv, mr_la_kf, mr_la_kk, mr_la_fe]
      exact h3
end SIMT
