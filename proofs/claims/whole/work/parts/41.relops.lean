theorem xisBox {a : Int32} (h : vp_in a 6) : ¬ xf_isBox a = 0 := by
  obtain ⟨j, hj, rfl⟩ := vp_in_of h (by decide)
  unfold xf_isBox
  have h6 : ¬ (6 : Int32) ≤ nI j := nI_ge (b := 6) hj (by decide)
  rw [if_neg (nI_pos (by omega)), if_neg h6]
  decide
theorem xisKind {a : Int32} (h : vp_in a 10) : ¬ xf_isKind a = 0 := by
  obtain ⟨j, hj, rfl⟩ := vp_in_of h (by decide)
  unfold xf_isKind
  have h6 : ¬ (10 : Int32) ≤ nI j := nI_ge (b := 10) hj (by decide)
  rw [if_neg (nI_pos (by omega)), if_neg h6]
  decide
theorem xf_keep_in {a : Int32} (v : Int64) (σ : SX) (h : vp_in a 6) : xf_keep a v σ = (0, xs_bc (xs_bs σ (vp_updL (x_bs σ) a.toNatClampNeg (x_bs σ a.toNatClampNeg + v))) (upd (x_bc σ) a.toNatClampNeg (x_bc σ a.toNatClampNeg + 1))) := by
  unfold xf_keep
  rw [if_neg (xisBox h)]
theorem fx_keep (a : Int32) (v : Int64) (σ : SX) : fx (xf_keep a v σ).2 = fx σ := by
  unfold xf_keep
  by_cases c : xf_isBox a = 0
  · rw [if_pos c]
  · rw [if_neg c]
    exact (fx_bc _ _).trans (fx_bs _ _)
theorem fm_keep (a : Int32) (v : Int64) (μ : SM) : fm (mf_keep a v μ) = fm μ := (fm_co _ _).trans (fm_su _ _)
theorem Fr_keep {t : Nat} {μ ν : SM} (a : Int32) (v : Int64) (h : Fr t μ ν) : Fr t μ (mf_keep a v ν) := Fr_co _ (Fr_su _ h)
theorem RIn_keep {B : Int} {t b : Nat} {σ : SX} {μ : SM} {a : Int32} (v : Int64) (ha : vp_in a 6) (h : RIn B t b σ μ) : RIn (B + 1) t b (xf_keep a v σ).2 (mf_keep a v μ) := by
  rw [xf_keep_in v σ ha]
  unfold RIn mf_keep
  dsimp only
  rw [xr_bs_bc, xw_bs, xw_bc, xr_hd_bc, xr_hd_bs, xr_tab_bc, xr_tab_bs, xr_n_bc, xr_n_bs, xr_qf_bc, xr_qf_bs, xr_qs_bc, xr_qs_bs, xr_qk_bc, xr_qk_bs, xr_qv_bc, xr_qv_bs, xr_bl_bc, xr_bl_bs, mr_su_co, mw_su, mw_co, mr_st_co, mr_st_su, mr_so_co, mr_so_su, mr_as_co, mr_as_su, mr_ki_co, mr_ki_su, mr_bs_co, mr_bs_su, mr_cs_co, mr_cs_su, mr_fo_co, mr_fo_su, mr_ot_co, mr_ot_su, mr_le_co, mr_le_su, mr_sz_co, mr_sz_su, mr_qk_co, mr_qk_su, mr_qv_co, mr_qv_su, mr_bg_co, mr_bg_su, mr_tp_co, mr_tp_su]
  obtain ⟨h1, h2⟩ := h
  refine ⟨fun i hi => ?_, h2⟩
  obtain ⟨g1, g2, c, g3, g4⟩ := h1 i hi
  obtain ⟨j, hj, rfl⟩ := vp_in_of ha (by decide)
  rw [nI_clamp (by omega)]
  by_cases e : i = j
  · subst e
    rw [pk_uLs, pk_uLs, pk_us, pk_us, g1, g2]
    exact ⟨rfl, rfl, c + 1, by rw [g3, nI_1], by omega⟩
  · rw [pk_uLn e, pk_uLn e, pk_un e, pk_un e]
    exact ⟨g1, g2, c, g3, by omega⟩
theorem z_mod40 {f i q : Nat} (hi : i < q) (hq : q < 40) (h : (f + i) % 40 = (f + q) % 40) : False := by omega
theorem RIn_enq {B : Int} {t b : Nat} {σ : SX} {μ : SM} {k : Int32} (v : Int64) (hk : vp_in k 10) (h : RIn B t b σ μ) : (m_sz μ = 40 ∧ xf_enqueue k v σ = (5, σ)) ∨ (¬ m_sz μ = 40 ∧ vp_in (m_sz μ) 40 ∧ (xf_enqueue k v σ).1 = 0 ∧ RIn B t b (xf_enqueue k v σ).2 (mf_comes k v μ)) := by
  obtain ⟨h1, h2, h3, h4, ⟨f, q, q1, q2, q3, q4, q5, q6⟩, h6⟩ := id h
  by_cases hq : q = 40
  · subst hq
    refine Or.inl ⟨q4, ?_⟩
    unfold xf_enqueue
    rw [q3, if_neg (by decide)]
  · have hlt : q < 40 := by omega
    have er : (x_qf σ + x_qs σ) - (x_qf σ + x_qs σ) / 40 * 40 = nI ((f + q) % 40) := by
      rw [q1, q3, nI_add]
      exact pk_rem (d := 40) (by omega) (by decide) (by decide)
    have ef : xf_enqueue k v σ = (0, xs_qs (xs_qv (xs_qk σ (upd (x_qk σ) ((f + q) % 40) k)) (vp_updL (x_qv σ) ((f + q) % 40) v)) (x_qs σ + 1)) := by
      unfold xf_enqueue
      rw [if_pos (by rw [q3]; exact nI_lt hlt (by decide)), er, if_pos (nI_pos' (by omega)), nI_clamp (by omega)]
    refine Or.inr ⟨fun e => hq ?_, by rw [q4]; exact vp_in_nI hlt (by decide), by rw [ef], ?_⟩
    · rw [q4] at e
      exact (nI_eq (b := 40) (by omega) (by decide)).mp e
    · rw [ef]
      unfold RIn mf_comes
      dsimp only
      rw [xr_bs_qs, xr_bs_qv, xr_bs_qk, xr_bc_qs, xr_bc_qv, xr_bc_qk, xr_hd_qs, xr_hd_qv, xr_hd_qk, xr_tab_qs, xr_tab_qv, xr_tab_qk, xr_n_qs, xr_n_qv, xr_n_qk, xr_qf_qs, xr_qf_qv, xr_qf_qk, xw_qs, xr_qk_qs, xr_qk_qv, xw_qk, xr_qv_qs, xw_qv, xr_bl_qs, xr_bl_qv, xr_bl_qk, mr_su_sz, mr_su_qv, mr_su_qk, mr_co_sz, mr_co_qv, mr_co_qk, mr_st_sz, mr_st_qv, mr_st_qk, mr_so_sz, mr_so_qv, mr_so_qk, mr_as_sz, mr_as_qv, mr_as_qk, mr_ki_sz, mr_ki_qv, mr_ki_qk, mr_bs_sz, mr_bs_qv, mr_bs_qk, mr_cs_sz, mr_cs_qv, mr_cs_qk, mr_fo_sz, mr_fo_qv, mr_fo_qk, mr_ot_sz, mr_ot_qv, mr_ot_qk, mr_le_sz, mr_le_qv, mr_le_qk, mw_sz, mr_qk_sz, mr_qk_qv, mw_qk, mr_qv_sz, mw_qv, mr_bg_sz, mr_bg_qv, mr_bg_qk, mr_tp_sz, mr_tp_qv, mr_tp_qk]
      refine ⟨h1, h2, h3, h4, ⟨f, q + 1, q1, q2, by rw [q3, nI_1], by rw [q4, nI_1], by omega, fun i hi => ?_⟩, h6⟩
      rw [q4, nI_clamp (by omega)]
      by_cases e : i = q
      · subst e
        rw [pk_us, pk_us, pk_uLs, pk_uLs]
        exact ⟨rfl, rfl, hk⟩
      · have e2 : ¬ (f + i) % 40 = (f + q) % 40 := fun z => z_mod40 (by omega) hlt z
        rw [pk_un e2, pk_un e, pk_uLn e2, pk_uLn e]
        exact q6 i (by omega)
theorem fx_enqueue (a : Int32) (v : Int64) (σ : SX) : fx (xf_enqueue a v σ).2 = fx σ := by
  unfold xf_enqueue
  by_cases c : x_qs σ < 40
  · rw [if_pos c]
    by_cases c2 : 0 ≤ (x_qf σ + x_qs σ) - (x_qf σ + x_qs σ) / 40 * 40
    · rw [if_pos c2]
      exact (fx_qs _ _).trans ((fx_qv _ _).trans (fx_qk _ _))
    · rw [if_neg c2]
  · rw [if_neg c]
theorem fm_comes (a : Int32) (v : Int64) (μ : SM) : fm (mf_comes a v μ) = fm μ := (fm_sz _ _).trans ((fm_qv _ _).trans (fm_qk _ _))
theorem Fr_comes {t : Nat} {μ ν : SM} (a : Int32) (v : Int64) (h : Fr t μ ν) : Fr t μ (mf_comes a v ν) := Fr_sz _ (Fr_qv _ (Fr_qk _ h))
