/-! between the calls -/
def rRest (F : Nat) (σ : SX) (μ : SM) : Prop :=
  m_many μ = nI (x_n σ) ∧ 2 ≤ x_n σ ∧ x_told σ = nI (x_n σ - 2) ∧ x_tk σ = m_tk μ ∧ ∃ f, f ≤ F ∧ x_fl σ = nI f ∧ m_fe μ = nI f ∧ m_kp μ = nI (min f 30) ∧ ∀ i, i < min f 30 → x_fk σ i = m_kk μ i ∧ x_fn σ i = m_kf μ i ∧ x_fv σ i = m_kv μ i
def Rel (B : Int) (F : Nat) (σ : SX) (μ : SM) : Prop := RIn B 0 0 (xs_bl σ 0) (ms_bg (ms_tp μ 0) 0) ∧ rRest F σ μ ∧ x_bic σ = m_la μ
theorem rRest_of {F : Nat} {σ τ : SX} {μ ν : SM} (h : rRest F σ μ) (hx : fx τ = fx σ) (hm : fm ν = fm μ) : rRest F τ ν := by
  unfold fx at hx
  unfold fm at hm
  simp only [Prod.mk.injEq] at hx hm
  obtain ⟨a1, a2, a3, a4, a5, a6, a7, a8⟩ := hx
  obtain ⟨c1, c2, c3, c4, c5, c6, c7, c8, -⟩ := hm
  unfold rRest
  rw [a1, a2, a3, a4, a5, a6, a8, c1, c2, c3, c4, c5, c6, c7]
  exact h
theorem fx_bicE {σ τ : SX} (h : fx τ = fx σ) : x_bic τ = x_bic σ := by
  unfold fx at h
  simp only [Prod.mk.injEq] at h
  exact h.2.2.2.2.2.2.1
theorem fm_laE {μ ν : SM} (h : fm ν = fm μ) : m_la ν = m_la μ := by
  unfold fm at h
  simp only [Prod.mk.injEq] at h
  exact h.2.2.2.2.2.2.2.1
theorem rR_xbic {F : Nat} {σ : SX} {μ : SM} (v : Int32) (h : rRest F σ μ) : rRest F (xs_bic σ v) μ := by
  unfold rRest
  rw [xr_n_bic, xr_told_bic, xr_tk_bic, xr_fl_bic, xr_fk_bic, xr_fn_bic, xr_fv_bic]
  exact h
theorem rR_xbl {F : Nat} {σ : SX} {μ : SM} (v : Int32) (h : rRest F σ μ) : rRest F (xs_bl σ v) μ := by
  unfold rRest
  rw [xr_n_bl, xr_told_bl, xr_tk_bl, xr_fl_bl, xr_fk_bl, xr_fn_bl, xr_fv_bl]
  exact h
theorem rR_mla {F : Nat} {σ : SX} {μ : SM} (v : Int32) (h : rRest F σ μ) : rRest F σ (ms_la μ v) := by
  unfold rRest
  rw [mr_many_la, mr_tk_la, mr_fe_la, mr_kp_la, mr_kk_la, mr_kf_la, mr_kv_la]
  exact h
theorem rR_mbg {F : Nat} {σ : SX} {μ : SM} (v : Int32) (h : rRest F σ μ) : rRest F σ (ms_bg μ v) := by
  unfold rRest
  rw [mr_many_bg, mr_tk_bg, mr_fe_bg, mr_kp_bg, mr_kk_bg, mr_kf_bg, mr_kv_bg]
  exact h
theorem rR_mtp {F : Nat} {σ : SX} {μ : SM} (v : Int32) (h : rRest F σ μ) : rRest F σ (ms_tp μ v) := by
  unfold rRest
  rw [mr_many_tp, mr_tk_tp, mr_fe_tp, mr_kp_tp, mr_kk_tp, mr_kf_tp, mr_kv_tp]
  exact h
theorem RIn_reset {B : Int} {t c : Nat} {σ : SX} {ν : SM} (h : RIn B t c σ ν) : RIn (B + 32) 0 0 (xs_bl σ 0) (ms_bg (ms_tp ν 0) 0) := by
  unfold RIn
  rw [xr_bs_bl, xr_bc_bl, xr_hd_bl, xr_tab_bl, xr_n_bl, xr_qf_bl, xr_qs_bl, xr_qk_bl, xr_qv_bl, xw_bl, mr_su_bg, mr_su_tp, mr_co_bg, mr_co_tp, mr_st_bg, mr_st_tp, mr_so_bg, mr_so_tp, mr_as_bg, mr_as_tp, mr_ki_bg, mr_ki_tp, mr_bs_bg, mr_bs_tp, mr_cs_bg, mr_cs_tp, mr_fo_bg, mr_fo_tp, mr_ot_bg, mr_ot_tp, mr_le_bg, mr_le_tp, mr_sz_bg, mr_sz_tp, mr_qk_bg, mr_qk_tp, mr_qv_bg, mr_qv_tp, mw_bg, mr_tp_bg, mw_tp]
  obtain ⟨h1, h2, h3, h4, h5, h6, h7⟩ := h
  have hc := h6.2.2
  refine ⟨fun i hi => ?_, h2, h3, h4, h5, ⟨rfl, rfl, by omega⟩, rfl, by omega⟩
  obtain ⟨g1, g2, c, g3, g4⟩ := h1 i hi
  exact ⟨g1, g2, c, g3, by omega⟩
theorem sim_go {B : Int} {F : Nat} {σ : SX} {μ : SM} (h : Rel B F σ μ) (hB : B ≤ 1000000000) {k : Int32} (hk : vp_in k 10) (v : Int64) : ∃ τ, mReach (mf_call (m_st μ k.toNatClampNeg) v (ms_bg (ms_tp μ 0) 0)) τ ∧ m_tp τ ≤ 0 ∧ m_fa τ = (xf_deliver k v σ).1 ∧ Rel (B + 32) F (xf_deliver k v σ).2 (ms_la τ (m_la τ + m_bg τ)) := by
  obtain ⟨h1, h2, h3⟩ := h
  have est := RIn_st h1 hk
  rw [mr_st_bg, mr_st_tp] at est
  have er := xf_handlerOf_in (xs_bl σ 0) hk
  obtain ⟨ν, c, g1, g2, g3, g4, g5, g6, g7⟩ := kid_all 8 0 rfl B 0 (xs_bl σ 0) (ms_bg (ms_tp μ 0) 0) (x_hd (xs_bl σ 0) k.toNatClampNeg) v h1 (h1.ok.1 _) hB
  have e1 : nI (0 + 1) = (1 : Int32) := rfl
  rw [e1] at g2 g3 g4
  unfold xf_deliver
  rw [er, est]
  generalize xf_begin 8 (x_hd (xs_bl σ 0) k.toNatClampNeg) v 1 (xs_bl σ 0) = R at g2 g3 g4 ⊢
  refine ⟨ν, g1, ?_, g3, RIn_reset (RInx_bic _ (RIn_la _ g2)), ?_, ?_⟩
  · rw [g2.tpE]
    decide
  · exact rR_xbic _ (rR_mla _ (rRest_of (rR_xbl 0 (rR_mbg 0 (rR_mtp 0 h2))) g4 g5))
  · have q1 := fx_bicE g4
    have q2 := fm_laE g5
    rw [xr_bic_bl] at q1
    rw [mr_la_bg, mr_la_tp] at q2
    dsimp only
    rw [xw_bic, mw_la, q1, q2, h3, g2.bl.1, g2.bl.2.1]
theorem misKind {a : Int32} (h : vp_in a 10) : ¬ mf_isKind a = 0 := by
  obtain ⟨i, hi, rfl⟩ := vp_in_of h (by decide)
  have h5 : ¬ (9 : Int32) < nI i := fun q => by
    have := (nI_ltI (a := 9) (b := i) (by decide) (by omega)).mp q
    omega
  unfold mf_isKind mf_in
  rw [if_neg (nI_pos (by omega)), if_neg h5]
  decide
theorem kindE (k : Int32) : (xf_isKind k = 0 ∧ mf_isKind k = 0) ∨ (¬ xf_isKind k = 0 ∧ ¬ mf_isKind k = 0 ∧ vp_in k 10) := by
  by_cases c : xf_isKind k = 0
  · refine Or.inl ⟨c, ?_⟩
    by_cases c2 : mf_isKind k = 0
    · exact c2
    · exact absurd c (xisKind (mkind_in c2))
  · exact Or.inr ⟨c, misKind (xkind_in c), xkind_in c⟩
theorem boxE (k : Int32) : (xf_isBox k = 0 ∧ mf_isBox k = 0) ∨ (¬ xf_isBox k = 0 ∧ ¬ mf_isBox k = 0 ∧ vp_in k 6) := by
  by_cases c : xf_isBox k = 0
  · refine Or.inl ⟨c, ?_⟩
    by_cases c2 : mf_isBox k = 0
    · exact c2
    · exact absurd c (xisBox (mbox_in c2))
  · exact Or.inr ⟨c, misBox (xbox_in c), xbox_in c⟩
theorem Rel.up {B C : Int} {F G : Nat} {σ : SX} {μ : SM} (h : Rel B F σ μ) (hB : B ≤ C) (hF : F ≤ G) : Rel C G σ μ := by
  obtain ⟨h1, ⟨a1, a2, a3, a4, f, a5, a6⟩, h3⟩ := h
  exact ⟨h1.up hB, ⟨a1, a2, a3, a4, f, by omega, a6⟩, h3⟩
theorem RIn_bt {B : Int} {σ : SX} {μ : SM} {v : Int32} (h : RIn B 0 0 (xs_bl σ 0) (ms_bg (ms_tp μ 0) 0)) : RIn B 0 0 (xs_bl (xs_bic σ v) 0) (ms_bg (ms_tp (ms_la μ v) 0) 0) := by
  unfold RIn at h ⊢
  rw [xr_bs_bl, xr_bc_bl, xr_hd_bl, xr_tab_bl, xr_n_bl, xr_qf_bl, xr_qs_bl, xr_qk_bl, xr_qv_bl, xw_bl, mr_su_bg, mr_su_tp, mr_co_bg, mr_co_tp, mr_st_bg, mr_st_tp, mr_so_bg, mr_so_tp, mr_as_bg, mr_as_tp, mr_ki_bg, mr_ki_tp, mr_bs_bg, mr_bs_tp, mr_cs_bg, mr_cs_tp, mr_fo_bg, mr_fo_tp, mr_ot_bg, mr_ot_tp, mr_le_bg, mr_le_tp, mr_sz_bg, mr_sz_tp, mr_qk_bg, mr_qk_tp, mr_qv_bg, mr_qv_tp, mw_bg, mr_tp_bg, mw_tp] at h
  rw [xr_bs_bl, xr_bs_bic, xr_bc_bl, xr_bc_bic, xr_hd_bl, xr_hd_bic, xr_tab_bl, xr_tab_bic, xr_n_bl, xr_n_bic, xr_qf_bl, xr_qf_bic, xr_qs_bl, xr_qs_bic, xr_qk_bl, xr_qk_bic, xr_qv_bl, xr_qv_bic, xw_bl, mr_su_bg, mr_su_tp, mr_su_la, mr_co_bg, mr_co_tp, mr_co_la, mr_st_bg, mr_st_tp, mr_st_la, mr_so_bg, mr_so_tp, mr_so_la, mr_as_bg, mr_as_tp, mr_as_la, mr_ki_bg, mr_ki_tp, mr_ki_la, mr_bs_bg, mr_bs_tp, mr_bs_la, mr_cs_bg, mr_cs_tp, mr_cs_la, mr_fo_bg, mr_fo_tp, mr_fo_la, mr_ot_bg, mr_ot_tp, mr_ot_la, mr_le_bg, mr_le_tp, mr_le_la, mr_sz_bg, mr_sz_tp, mr_sz_la, mr_qk_bg, mr_qk_tp, mr_qk_la, mr_qv_bg, mr_qv_tp, mr_qv_la, mw_bg, mr_tp_bg, mw_tp]
  exact h
theorem Rel_la {B : Int} {F : Nat} {σ : SX} {μ : SM} (v : Int32) (h : Rel B F σ μ) : Rel B F (xs_bic σ v) (ms_la μ v) :=
  ⟨RIn_bt h.1, rR_xbic _ (rR_mla _ h.2.1), by rw [xw_bic, mw_la]⟩
theorem sim_give {B : Int} {F : Nat} {σ : SX} {μ : SM} (h : Rel B F σ μ) (hB : B ≤ 1000000000) (k : Int32) (v : Int64) : ∃ RR, mGv k v μ RR ∧ RR.1 = (xf_give k v σ).1 ∧ Rel (B + 32) F (xf_give k v σ).2 RR.2 := by
  unfold xf_give mGv
  rcases kindE k with ⟨c1, c2⟩ | ⟨c1, c2, c3⟩
  · rw [if_pos c1]
    exact ⟨(-2, μ), ⟨fun _ => rfl, fun q => absurd c2 q⟩, rfl, h.up (by omega) (Nat.le_refl F)⟩
  · rw [if_neg c1]
    obtain ⟨τ, g1, g2, g3, g4⟩ := sim_go (Rel_la 0 h) hB c3 v
    rw [mr_st_la] at g1
    refine ⟨_, ⟨fun q => absurd q c2, fun _ => ⟨τ, g1, g2, rfl⟩⟩, ?_⟩
    rw [← g3]
    by_cases c4 : m_fa τ = 0
    · rw [if_pos c4, if_pos c4]
      exact ⟨rfl, g4⟩
    · rw [if_neg c4, if_neg c4]
      exact ⟨rfl, g4⟩
