noncomputable def mHT (k so a b : Int32) (w : Int64) (o : Int32) (μ : SM) : SM := (ms_many (ms_st (ms_le (ms_ot (ms_fo (ms_cs (ms_bs (ms_as (ms_ki (ms_so μ (upd (m_so μ) (m_many μ).toNatClampNeg so)) (upd (m_ki μ) (m_many μ).toNatClampNeg k)) (upd (m_as μ) (m_many μ).toNatClampNeg a)) (upd (m_bs μ) (m_many μ).toNatClampNeg b)) (vp_updL (m_cs μ) (m_many μ).toNatClampNeg w)) (upd (m_fo μ) (m_many μ).toNatClampNeg (m_st μ k.toNatClampNeg))) (upd (m_ot μ) (m_many μ).toNatClampNeg o)) (upd (m_le μ) (m_many μ).toNatClampNeg 0)) (upd (m_st μ) k.toNatClampNeg (m_many μ))) (m_many μ + 1))
theorem Rel_told {B : Int} {F : Nat} {σ : SX} {μ : SM} (h : Rel B F σ μ) {k so a b : Int32} {w : Int64} {r2 : Option Nat} {o : Int32} (hN : x_n σ < 202) (hk : vp_in k 10) (ho : o = enc r2) (h2 : okr (x_n σ) r2) (hr : hOK (k, so, a, b, w, x_hd σ k.toNatClampNeg, r2, 0)) : Rel B F (xf_handleT k so a b w r2 σ).2 (mHT k so a b w o μ) := by
  obtain ⟨h1, ⟨a1, a2, a3, a4, a5⟩, h3⟩ := h
  obtain ⟨c1, c2, c3, c4, c5, c6⟩ := Rel_c.mp h1
  have eN : (m_many μ).toNatClampNeg = x_n σ := by rw [a1]; exact nI_clamp (by omega)
  obtain ⟨i0, hi0, ek⟩ := vp_in_of hk (by decide)
  have ek2 : k.toNatClampNeg = i0 := by rw [ek]; exact nI_clamp (by omega)
  have est := c2 i0 hi0
  unfold xf_handleT mHT
  dsimp only
  rw [eN]
  refine ⟨Rel_c.mpr ?_, ?_, ?_⟩
  · rw [xr_bs_told, xr_bs_hd, xr_bs_n, xr_bs_tab, xr_bc_told, xr_bc_hd, xr_bc_n, xr_bc_tab, xr_hd_told, xw_hd, xr_tab_told, xr_tab_hd, xr_tab_n, xw_tab, xr_n_told, xr_n_hd, xw_n, xr_qf_told, xr_qf_hd, xr_qf_n, xr_qf_tab, xr_qs_told, xr_qs_hd, xr_qs_n, xr_qs_tab, xr_qk_told, xr_qk_hd, xr_qk_n, xr_qk_tab, xr_qv_told, xr_qv_hd, xr_qv_n, xr_qv_tab, mr_su_many, mr_su_st, mr_su_le, mr_su_ot, mr_su_fo, mr_su_cs, mr_su_bs, mr_su_as, mr_su_ki, mr_su_so, mr_co_many, mr_co_st, mr_co_le, mr_co_ot, mr_co_fo, mr_co_cs, mr_co_bs, mr_co_as, mr_co_ki, mr_co_so, mr_st_many, mw_st, mr_so_many, mr_so_st, mr_so_le, mr_so_ot, mr_so_fo, mr_so_cs, mr_so_bs, mr_so_as, mr_so_ki, mw_so, mr_as_many, mr_as_st, mr_as_le, mr_as_ot, mr_as_fo, mr_as_cs, mr_as_bs, mw_as, mr_ki_many, mr_ki_st, mr_ki_le, mr_ki_ot, mr_ki_fo, mr_ki_cs, mr_ki_bs, mr_ki_as, mw_ki, mr_bs_many, mr_bs_st, mr_bs_le, mr_bs_ot, mr_bs_fo, mr_bs_cs, mw_bs, mr_cs_many, mr_cs_st, mr_cs_le, mr_cs_ot, mr_cs_fo, mw_cs, mr_fo_many, mr_fo_st, mr_fo_le, mr_fo_ot, mw_fo, mr_ot_many, mr_ot_st, mr_ot_le, mw_ot, mr_le_many, mr_le_st, mw_le, mr_sz_many, mr_sz_st, mr_sz_le, mr_sz_ot, mr_sz_fo, mr_sz_cs, mr_sz_bs, mr_sz_as, mr_sz_ki, mr_sz_so, mr_qk_many, mr_qk_st, mr_qk_le, mr_qk_ot, mr_qk_fo, mr_qk_cs, mr_qk_bs, mr_qk_as, mr_qk_ki, mr_qk_so, mr_qv_many, mr_qv_st, mr_qv_le, mr_qv_ot, mr_qv_fo, mr_qv_cs, mr_qv_bs, mr_qv_as, mr_qv_ki, mr_qv_so]
    refine ⟨c1, fun j hj => ?_, fun i hi => ?_, ⟨by omega, fun j => ?_, fun i => ?_⟩, c5, c6⟩
    · by_cases e : j = k.toNatClampNeg
      · subst e
        rw [pk_us, va_up_self, a1]
        rfl
      · rw [pk_un e, va_up_ne _ _ e]
        exact c2 j hj
    · by_cases e : i = x_n σ
      · subst e
        rw [va_up_self]
        refine ⟨pk_us, pk_us, Or.inr (Or.inr ⟨a2, pk_us, pk_us, pk_uLs, ?_, ?_, pk_us, hr⟩)⟩
        · rw [pk_us, ek2, est]
          rfl
        · rw [pk_us, ho]
          rfl
      · rw [va_up_ne _ _ e]
        obtain ⟨g1, g2, g3⟩ := c3 i (by omega)
        refine ⟨(pk_un e).trans g1, (pk_un e).trans g2, ?_⟩
        rw [pk_un e, pk_un e, pk_uLn e, pk_un e, pk_un e, pk_un e]
        exact g3
    · by_cases e : j = k.toNatClampNeg
      · subst e
        rw [va_up_self]
        intro q hq
        cases hq
        omega
      · rw [va_up_ne _ _ e]
        exact okr_mono (c4.2.1 j) (by omega)
    · by_cases e : i = x_n σ
      · subst e
        rw [va_up_self]
        exact ⟨okr_mono (c4.2.1 _) (by omega), okr_mono h2 (by omega)⟩
      · rw [va_up_ne _ _ e]
        exact ⟨okr_mono (c4.2.2 i).1 (by omega), okr_mono (c4.2.2 i).2 (by omega)⟩
  · unfold rRest
    rw [xr_n_told, xr_n_hd, xw_n, xw_told, xr_tk_told, xr_tk_hd, xr_tk_n, xr_tk_tab, xr_fl_told, xr_fl_hd, xr_fl_n, xr_fl_tab, xr_fk_told, xr_fk_hd, xr_fk_n, xr_fk_tab, xr_fn_told, xr_fn_hd, xr_fn_n, xr_fn_tab, xr_fv_told, xr_fv_hd, xr_fv_n, xr_fv_tab, mw_many, mr_tk_many, mr_tk_st, mr_tk_le, mr_tk_ot, mr_tk_fo, mr_tk_cs, mr_tk_bs, mr_tk_as, mr_tk_ki, mr_tk_so, mr_fe_many, mr_fe_st, mr_fe_le, mr_fe_ot, mr_fe_fo, mr_fe_cs, mr_fe_bs, mr_fe_as, mr_fe_ki, mr_fe_so, mr_kp_many, mr_kp_st, mr_kp_le, mr_kp_ot, mr_kp_fo, mr_kp_cs, mr_kp_bs, mr_kp_as, mr_kp_ki, mr_kp_so, mr_kk_many, mr_kk_st, mr_kk_le, mr_kk_ot, mr_kk_fo, mr_kk_cs, mr_kk_bs, mr_kk_as, mr_kk_ki, mr_kk_so, mr_kf_many, mr_kf_st, mr_kf_le, mr_kf_ot, mr_kf_fo, mr_kf_cs, mr_kf_bs, mr_kf_as, mr_kf_ki, mr_kf_so, mr_kv_many, mr_kv_st, mr_kv_le, mr_kv_ot, mr_kv_fo, mr_kv_cs, mr_kv_bs, mr_kv_as, mr_kv_ki, mr_kv_so]
    exact ⟨by rw [a1, nI_1], by omega, by rw [a3, nI_1]; congr 1; omega, a4, a5⟩
  · rw [xr_bic_told, xr_bic_hd, xr_bic_n, xr_bic_tab, mr_la_many, mr_la_st, mr_la_le, mr_la_ot, mr_la_fo, mr_la_cs, mr_la_bs, mr_la_as, mr_la_ki, mr_la_so]
    exact h3
