theorem Fr_push {t : Nat} {μ ν : SM} {h : Int32} {z : Int32} {v : Int64} (hF : Fr t μ ν) : Fr t μ (ms_va (ms_sg (ms_wh ν (upd (m_wh μ) t h)) (upd (m_sg μ) t z)) (vp_updL (m_va μ) t v)) := by
  intro i hi
  rw [mr_wh_va, mr_wh_sg, mw_wh, mr_sg_va, mw_sg, mw_va, pk_un (by omega), pk_un (by omega), pk_uLn (by omega)]
  exact ⟨rfl, rfl, rfl⟩
/-- a handler begins, on both sides, at every depth -/
theorem kid_all : ∀ (d t : Nat), t + d = 8 → Kid d t := by
  intro d
  induction d with
  | zero =>
    intro t ht B b σ μ r v h hr hB
    have e8 : m_tp μ = 8 := by rw [h.tpE, show t = 8 by omega]; rfl
    have ec : mf_call (enc r) v μ = ms_fa (ms_fa μ 0) 6 := by
      unfold mf_call
      rw [if_pos e8]
    rw [ec]
    exact ⟨_, b, mReach.refl _, RIn_fa _ (RIn_fa _ h), mw_fa _ _, rfl, (fm_fa _ _).trans (fm_fa _ _), Fr_fa _ (Fr_fa _ (Fr.refl t μ)), Nat.le_refl b⟩
  | succ d ih =>
    intro t ht B b σ μ r v h hr hB
    have hn := h.nn
    obtain ⟨b1, b2, b3⟩ := h.bl
    have n8 : ¬ m_tp μ = 8 := by
      rw [h.tpE]
      exact fun e => absurd ((nI_eq (a := t) (b := 8) (by omega) (by decide)).mp e) (by omega)
    have d8 : ¬ (8 : Int32) < nI (t + 1) := fun e => absurd ((nI_ltI (a := 8) (b := t + 1) (by decide) (by omega)).mp e) (by omega)
    show Out B t b σ μ (mf_call (enc r) v μ) (xf_beginB (fun j v dp σ => xf_act (xf_begin d) j v dp σ) r v (nI (t + 1)) σ)
    unfold xf_beginB
    rw [if_neg d8]
    by_cases c1 : b = 16
    · have k1 : ¬ x_bl σ < 16 := by
        rw [b1, c1]
        decide
      have k2 : m_bg μ = 16 := by rw [b2, c1]; rfl
      have ec : mf_call (enc r) v μ = ms_fa (ms_fa μ 0) 6 := by
        unfold mf_call
        rw [if_neg n8, if_pos k2]
      rw [if_neg k1, ec]
      exact ⟨_, b, mReach.refl _, RIn_fa _ (RIn_fa _ h), mw_fa _ _, rfl, (fm_fa _ _).trans (fm_fa _ _), Fr_fa _ (Fr_fa _ (Fr.refl t μ)), Nat.le_refl b⟩
    · have k1 : x_bl σ < 16 := by
        rw [b1]
        exact nI_lt (b := 16) (by omega) (by decide)
      have k2 : ¬ m_bg μ = 16 := by
        rw [b2]
        exact fun e => absurd ((nI_eq (a := b) (b := 16) (by omega) (by decide)).mp e) (by omega)
      rw [if_pos k1]
      have h0 := RIn_bg (by omega) (RIn_fa 0 h)
      rw [mr_bg_fa] at h0
      cases r with
      | none =>
        have ec : mf_call (enc none) v μ = ms_fa (ms_bg (ms_fa μ 0) (m_bg μ + 1)) 1 := by
          unfold mf_call
          rw [if_neg n8, if_neg k2, if_neg (by decide)]
        rw [if_pos rfl, ec]
        exact ⟨_, b + 1, mReach.refl _, (RIn_fa _ h0).up (by omega), mw_fa _ _, fx_bl _ _, (fm_fa _ _).trans ((fm_bg _ _).trans (fm_fa _ _)), Fr_fa _ (Fr_bg _ (Fr_fa _ (Fr.refl t μ))), by omega⟩
      | some j =>
        have hj := hr j rfl
        have et : (m_tp μ).toNatClampNeg = t := by rw [h.tpE]; exact nI_clamp (by omega)
        have ec : mf_call (enc (some j)) v μ = ms_tp (ms_va (ms_sg (ms_wh (ms_bg (ms_fa μ 0) (m_bg μ + 1)) (upd (m_wh μ) t (nI j))) (upd (m_sg μ) t 0)) (vp_updL (m_va μ) t v)) (m_tp μ + 1) := by
          unfold mf_call
          rw [if_neg n8, if_neg k2, if_pos (show 0 ≤ enc (some j) from nI_pos' (by omega)), et]
          rfl
        have h1 : RIn (B - 2) (t + 1) (b + 1) (xs_bl σ (x_bl σ + 1)) (ms_tp (ms_va (ms_sg (ms_wh (ms_bg (ms_fa μ 0) (m_bg μ + 1)) (upd (m_wh μ) t (nI j))) (upd (m_sg μ) t 0)) (vp_updL (m_va μ) t v)) (m_tp μ + 1)) :=
          RIn_tp (by omega) (by rw [h.tpE, nI_1]) (RIn_va _ (RIn_sg _ (RIn_wh _ h0)))
        rw [if_neg (fun e => by cases e), ec]
        generalize eq1 : ms_tp (ms_va (ms_sg (ms_wh (ms_bg (ms_fa μ 0) (m_bg μ + 1)) (upd (m_wh μ) t (nI j))) (upd (m_sg μ) t 0)) (vp_updL (m_va μ) t v)) (m_tp μ + 1) = μ1 at h1 ⊢
        have w1 : m_wh μ1 t = nI j := by rw [← eq1, mr_wh_tp, mr_wh_va, mr_wh_sg, mw_wh, pk_us]
        have s1 : m_sg μ1 t = 0 := by rw [← eq1, mr_sg_tp, mr_sg_va, mw_sg, pk_us]
        have v1 : m_va μ1 t = v := by rw [← eq1, mr_va_tp, mw_va, pk_uLs]
        have f1 : fm μ1 = fm μ := by
          rw [← eq1]
          exact (fm_tp _ _).trans ((fm_va _ _).trans ((fm_sg _ _).trans ((fm_wh _ _).trans ((fm_bg _ _).trans (fm_fa _ _)))))
        have fr1 : Fr t μ μ1 := by
          rw [← eq1]
          exact Fr_tp _ (Fr_push (Fr_bg _ (Fr_fa _ (Fr.refl t μ))))
        obtain ⟨ν, c, g1, g2, g3, g4, g5, g6, g7⟩ := sA (v := v) (ih (t + 1) (by omega)) h1 (by omega) (by rw [xr_n_bl]; exact hj) w1 v1 s1
        exact ⟨ν, c, g1, g2.up (by omega), g3, g4.trans (fx_bl _ _), g5.trans f1, fr1.trans g6, by omega⟩
