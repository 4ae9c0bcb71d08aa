section SIMP
variable {B : Int} {F : Nat} {σ : SX} {μ : SM}
theorem Rel_enq (h : Rel B F σ μ) {k : Int32} (v : Int64) (hk : vp_in k 10) : (m_sz μ = 40 ∧ xf_enqueue k v σ = (5, σ)) ∨ (¬ m_sz μ = 40 ∧ (xf_enqueue k v σ).1 = 0 ∧ x_qs (xf_enqueue k v σ).2 = m_sz (mf_comes k v μ) ∧ Rel B F (xf_enqueue k v σ).2 (mf_comes k v μ)) := by
  obtain ⟨c1, c2, c3, c4, ⟨f, q, q1, q2, q3, q4, q5, q6⟩, c6⟩ := Rel_c.mp h.1
  by_cases hq : q = 40
  · subst hq
    refine Or.inl ⟨q4, ?_⟩
    unfold xf_enqueue
    rw [q3, if_neg (by decide)]
  · have hlt : q < 40 := by omega
    have er : (x_qf σ + x_qs σ) - (x_qf σ + x_qs σ) / 40 * 40 = nI ((f + q) % 40) := by
      rw [q1, q3, nI_add]
      exact pk_rem (d := 40) (by omega) (by decide) (by decide)
    have ef : xf_enqueue k v σ = (0, xs_qs (xs_qv (xs_qk σ (upd (x_qk σ) ((f + q) % 40) k)) (vp_updL (x_qv σ) ((f + q) % 40) v)) (x_qs σ + 1)) := by
      unfold xf_enqueue
      rw [if_pos (by rw [q3]; exact nI_lt hlt (by decide)), er, if_pos (nI_pos' (by omega)), nI_clamp (by omega)]
    refine Or.inr ⟨fun e => hq ?_, by rw [ef], ?_, ?_⟩
    · rw [q4] at e
      exact (nI_eq (b := 40) (by omega) (by decide)).mp e
    · rw [ef]
      unfold mf_comes
      dsimp only
      rw [xw_qs, mw_sz, q3, q4]
    · rw [ef]
      unfold mf_comes
      dsimp only
      refine ⟨Rel_c.mpr ?_, ?_, ?_⟩
      · rw [xr_bs_qs, xr_bs_qv, xr_bs_qk, xr_bc_qs, xr_bc_qv, xr_bc_qk, xr_hd_qs, xr_hd_qv, xr_hd_qk, xr_tab_qs, xr_tab_qv, xr_tab_qk, xr_n_qs, xr_n_qv, xr_n_qk, xr_qf_qs, xr_qf_qv, xr_qf_qk, xw_qs, xr_qk_qs, xr_qk_qv, xw_qk, xr_qv_qs, xw_qv, mr_su_sz, mr_su_qv, mr_su_qk, mr_co_sz, mr_co_qv, mr_co_qk, mr_st_sz, mr_st_qv, mr_st_qk, mr_so_sz, mr_so_qv, mr_so_qk, mr_as_sz, mr_as_qv, mr_as_qk, mr_ki_sz, mr_ki_qv, mr_ki_qk, mr_bs_sz, mr_bs_qv, mr_bs_qk, mr_cs_sz, mr_cs_qv, mr_cs_qk, mr_fo_sz, mr_fo_qv, mr_fo_qk, mr_ot_sz, mr_ot_qv, mr_ot_qk, mr_le_sz, mr_le_qv, mr_le_qk, mw_sz, mr_qk_sz, mr_qk_qv, mw_qk, mr_qv_sz, mw_qv]
        refine ⟨c1, c2, c3, c4, ⟨f, q + 1, q1, q2, by rw [q3, nI_1], by rw [q4, nI_1], by omega, fun i hi => ?_⟩, c6⟩
        rw [q4, nI_clamp (by omega)]
        by_cases e : i = q
        · subst e
          rw [pk_us, pk_us, pk_uLs, pk_uLs]
          exact ⟨rfl, rfl, hk⟩
        · have e2 : ¬ (f + i) % 40 = (f + q) % 40 := fun z => z_mod40 (by omega) hlt z
          rw [pk_un e2, pk_un e, pk_uLn e2, pk_uLn e]
          exact q6 i (by omega)
      · unfold rRest
        rw [xr_n_qs, xr_n_qv, xr_n_qk, xr_told_qs, xr_told_qv, xr_told_qk, xr_tk_qs, xr_tk_qv, xr_tk_qk, xr_fl_qs, xr_fl_qv, xr_fl_qk, xr_fk_qs, xr_fk_qv, xr_fk_qk, xr_fn_qs, xr_fn_qv, xr_fn_qk, xr_fv_qs, xr_fv_qv, xr_fv_qk, mr_many_sz, mr_many_qv, mr_many_qk, mr_tk_sz, mr_tk_qv, mr_tk_qk, mr_fe_sz, mr_fe_qv, mr_fe_qk, mr_kp_sz, mr_kp_qv, mr_kp_qk, mr_kk_sz, mr_kk_qv, mr_kk_qk, mr_kf_sz, mr_kf_qv, mr_kf_qk, mr_kv_sz, mr_kv_qv, mr_kv_qk]
        exact h.2.1
      · rw [xr_bic_qs, xr_bic_qv, xr_bic_qk, mr_la_sz, mr_la_qv, mr_la_qk]
        exact h.2.2
theorem sim_post (h : Rel B F σ μ) (k : Int32) (v : Int64) : (xf_post k v σ).1 = (mf_post k v μ).1 ∧ Rel B F (xf_post k v σ).2 (mf_post k v μ).2 := by
  unfold xf_post mf_post
  rcases kindE k with ⟨c1, c2⟩ | ⟨c1, c2, c3⟩
  · rw [if_pos c1, if_pos c2]
    exact ⟨rfl, h⟩
  · rw [if_neg c1, if_neg c2]
    rcases Rel_enq h v c3 with ⟨q1, q2⟩ | ⟨q1, q2, q3, q4⟩
    · rw [if_pos q1, q2, if_neg (show ¬ (5 : Int32) = 0 by decide)]
      exact ⟨rfl, h⟩
    · rw [if_neg q1, if_pos q2]
      exact ⟨q3, q4⟩
theorem Rel_szL (h : Rel B F σ μ) : ¬ m_sz μ = 40 → vp_in (m_sz μ) 40 := by
  have := RIn_szL h.1
  rw [mr_sz_bg, mr_sz_tp] at this
  exact this
theorem Rel_many (h : Rel B F σ μ) : ¬ m_many μ = 202 → vp_in (m_many μ) 202 := by
  have c := (Rel_c.mp h.1).2.2.2.1.1
  obtain ⟨-, ⟨a1, -⟩, -⟩ := h
  intro hn
  rw [a1] at hn ⊢
  exact vp_in_nI (by
    rcases Nat.lt_or_ge (x_n σ) 202 with g | g
    · exact g
    · exact absurd (by rw [show x_n σ = 202 by omega]; rfl) hn) (by decide)
end SIMP
