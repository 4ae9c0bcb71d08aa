section SIMB
variable {d t : Nat} {B : Int} {b : Nat} {σ : SX} {μ : SM} {j : Nat} {v : Int64}
theorem RIn_lim (h : RIn B t b σ μ) {x y : Nat} (hx : h_begun (x_tab σ j) = nI x) (hy : h_b (x_tab σ j) = nI y) (hxy : x < y) (hy1 : y ≤ 100) : RIn B t b (xs_tab σ (va_up (x_tab σ) j (hs_begun (x_tab σ j) (h_begun (x_tab σ j) + 1)))) (ms_le μ (upd (m_le μ) j (m_le μ j + 1))) := by
  unfold RIn
  rw [xr_bs_tab, xr_bc_tab, xr_hd_tab, xw_tab, xr_n_tab, xr_qf_tab, xr_qs_tab, xr_qk_tab, xr_qv_tab, xr_bl_tab, mr_su_le, mr_co_le, mr_st_le, mr_so_le, mr_as_le, mr_ki_le, mr_bs_le, mr_cs_le, mr_fo_le, mr_ot_le, mw_le, mr_sz_le, mr_qk_le, mr_qv_le, mr_bg_le, mr_tp_le]
  obtain ⟨h1, h2, h3, h4, h5, h6, h7⟩ := h
  refine ⟨h1, h2, fun i hi => ?_, ⟨h4.1, h4.2.1, fun i => ?_⟩, h5, h6, h7⟩
  · by_cases e : i = j
    · subst e
      rw [va_up_self]
      obtain ⟨g1, g2, g3⟩ := h3 i hi
      refine ⟨g1, g2, ?_⟩
      rcases g3 with g | g | ⟨a1, a2, a3, a4, a5, a6, a7, a8⟩
      · exact Or.inl g
      · exact Or.inr (Or.inl g)
      · refine Or.inr (Or.inr ⟨a1, a2, a3, a4, a5, a6, ?_, a8.1, a8.2.1, a8.2.2.1, a8.2.2.2.1, a8.2.2.2.2.1, fun _ => ⟨x + 1, y, ?_, hy, hxy, hy1⟩⟩)
        · rw [pk_us, a7]
          rfl
        · show h_begun (x_tab σ i) + 1 = nI (x + 1)
          rw [hx, nI_1]
    · rw [va_up_ne _ _ e]
      obtain ⟨g1, g2, g3⟩ := h3 i hi
      refine ⟨g1, g2, ?_⟩
      rw [pk_un e]
      exact g3
  · by_cases e : i = j
    · subst e
      rw [va_up_self]
      exact h4.2.2 i
    · rw [va_up_ne _ _ e]
      exact h4.2.2 i
theorem sA_5 (hk : Kid d (t + 1)) (h : RIn B (t + 1) b σ μ) (hB : B + 2 ≤ 1000000000) (hj : j < x_n σ) (hw : m_wh μ t = nI j) (hv : m_va μ t = v) (hs : m_sg μ t = 0) (hso : m_so μ j = 5) : Out (B + 2) t b σ μ μ (xf_act (xf_begin d) j v (nI (t + 1)) σ) := by
  have hn := h.nn
  have e3 : (nI j).toNatClampNeg = j := nI_clamp (by omega)
  have H := h.tr hj
  have g := tRel_2 H (by rw [hso]; decide) (by rw [hso]; decide)
  have hs2 : h_sort (x_tab σ j) = 5 := H.1.symm.trans hso
  obtain ⟨x, y, q1, q2, q3, q4⟩ := g.2.2.2.2.2.2.2.2.2.2.2.2 hs2
  have eb := begins_5 (nI t) (nI j) v μ (by rw [e3]; exact hso)
  rw [e3, g.2.2.1, g.2.2.2.2.1] at eb
  rw [act_5 _ _ _ _ _ hs2]
  unfold xf_limit
  by_cases c1 : x < y
  · have c2 : h_begun (x_tab σ j) < h_b (x_tab σ j) := by rw [q1, q2]; exact nI_lt c1 (by omega)
    have c3 : ¬ m_le μ j = h_b (x_tab σ j) := by
      rw [g.2.2.2.2.2.2.1, q1, q2]
      exact fun e => absurd ((nI_eq (by omega) (by omega)).mp e) (by omega)
    rw [if_pos c2, nI_1]
    rw [if_neg c3] at eb
    refine sA_kid hk h hB hj hw hv hs (by rw [hso]; decide) (by rw [hso]; decide) (RIn_lim h q1 q2 c1 q4) (by omega) ((xok_begun h.ok).2 j).1 (fx_tab _ _) (fm_le _ _) (Fr_le _ (Fr.refl t μ)) (mr_wh_le _ _) (mr_va_le _ _) (mr_sg_le _ _) ?_
    rw [eb, va_up_self]
    rfl
  · have c2 : ¬ h_begun (x_tab σ j) < h_b (x_tab σ j) := by rw [q1, q2]; exact nI_nlt (by omega) (by omega)
    have c3 : m_le μ j = h_b (x_tab σ j) := by rw [g.2.2.2.2.2.2.1, q1, q2, show x = y by omega]
    rw [if_neg c2]
    rw [if_pos c3] at eb
    exact out_end h rfl (by omega) (st0 h hB hj hw hv hs (by rw [eb]; exact mReach.refl _)) rfl rfl (Fr.refl t μ) (Nat.le_refl b)
theorem RIn_hd (h : RIn B t b σ μ) {i : Nat} {r : Option Nat} (hr : okr (x_n σ) r) : RIn B t b (xs_hd σ (va_up (x_hd σ) i r)) (ms_st μ (upd (m_st μ) i (enc r))) := by
  unfold RIn
  rw [xr_bs_hd, xr_bc_hd, xw_hd, xr_tab_hd, xr_n_hd, xr_qf_hd, xr_qs_hd, xr_qk_hd, xr_qv_hd, xr_bl_hd, mr_su_st, mr_co_st, mw_st, mr_so_st, mr_as_st, mr_ki_st, mr_bs_st, mr_cs_st, mr_fo_st, mr_ot_st, mr_le_st, mr_sz_st, mr_qk_st, mr_qv_st, mr_bg_st, mr_tp_st]
  obtain ⟨h1, h2, h3, h4, h5, h6, h7⟩ := h
  refine ⟨h1, fun k hk => ?_, h3, ⟨h4.1, fun k => ?_, h4.2.2⟩, h5, h6, h7⟩
  · by_cases e : k = i
    · subst e
      rw [pk_us, va_up_self]
    · rw [pk_un e, va_up_ne _ _ e]
      exact h2 k hk
  · by_cases e : k = i
    · subst e
      rw [va_up_self]
      exact hr
    · rw [va_up_ne _ _ e]
      exact h4.2.1 k
theorem mq_fo_keep (a : Int32) (w : Int64) (μ : SM) : m_fo (mf_keep a w μ) = m_fo μ := (mr_fo_co _ _).trans (mr_fo_su _ _)
theorem xp_n_keep (a : Int32) (w : Int64) (σ : SX) : x_n (xf_keep a w σ).2 = x_n σ := (xp_keep a w σ).1
theorem sA_6 (h : RIn B (t + 1) b σ μ) (hB : B + 2 ≤ 1000000000) (hj : j < x_n σ) (hw : m_wh μ t = nI j) (hv : m_va μ t = v) (hs : m_sg μ t = 0) (hso : m_so μ j = 6) : Out (B + 2) t b σ μ μ (xf_act (xf_begin d) j v (nI (t + 1)) σ) := by
  have hn := h.nn
  have e3 : (nI j).toNatClampNeg = j := nI_clamp (by omega)
  have H := h.tr hj
  have g := tRel_2 H (by rw [hso]; decide) (by rw [hso]; decide)
  have hs2 : h_sort (x_tab σ j) = 6 := H.1.symm.trans hso
  have ha := g.2.2.2.2.2.2.2.2.2.1 (Or.inr (Or.inl hs2))
  have hki := g.2.2.2.2.2.2.2.2.1
  have eb := begins_6 (nI t) (nI j) v μ (by rw [e3]; exact hso)
  rw [e3, H.2.1, mq_ki_keep, mq_fo_keep, g.2.1, g.2.2.2.2.1] at eb
  rw [act_6 _ _ _ _ _ hs2]
  unfold xf_once
  have k1 : (xf_keep (h_a (x_tab σ j)) v σ).1 = 0 := by rw [xf_keep_in v σ ha]
  rw [if_pos k1, xt_keep, if_neg (xisKind hki)]
  have h1 := RIn_keep v ha h
  refine out_end (RIn_hd h1 (by rw [xp_n_keep]; exact (h.ok.2 j).1)) k1 (by omega) (st0 h hB hj hw hv hs (by rw [eb]; exact mReach.refl _)) ((fx_hd _ _).trans (fx_keep _ _ _)) ((fm_st _ _).trans (fm_keep _ _ _)) (Fr_st _ (Fr_keep _ _ (Fr.refl t μ))) (Nat.le_refl b)
theorem sA_8 (h : RIn B (t + 1) b σ μ) (hB : B + 2 ≤ 1000000000) (hj : j < x_n σ) (hw : m_wh μ t = nI j) (hv : m_va μ t = v) (hs : m_sg μ t = 0) (hso : m_so μ j = 8) : Out (B + 2) t b σ μ μ (xf_act (xf_begin d) j v (nI (t + 1)) σ) := by
  have hn := h.nn
  have e3 : (nI j).toNatClampNeg = j := nI_clamp (by omega)
  have H := h.tr hj
  have g := tRel_2 H (by rw [hso]; decide) (by rw [hso]; decide)
  have hs2 : h_sort (x_tab σ j) = 8 := H.1.symm.trans hso
  have ha := g.2.2.2.2.2.2.2.2.2.1 (Or.inr (Or.inr (Or.inl hs2)))
  have hb2 := g.2.2.2.2.2.2.2.2.2.2.2.1 hs2
  have eb := begins_8 (nI t) (nI j) v μ (by rw [e3]; exact hso)
  rw [e3, H.2.1, g.2.2.1, g.2.2.2.1] at eb
  rw [act_8 _ _ _ _ _ hs2]
  unfold xf_share
  unfold mf_shares at eb
  by_cases c1 : lg_cmp (h_c (x_tab σ j)) 0 = 0
  · rw [if_pos c1]
    rw [if_pos c1] at eb
    exact out_end h rfl (by omega) (st0 h hB hj hw hv hs (by rw [eb]; exact mReach.refl _)) rfl rfl (Fr.refl t μ) (Nat.le_refl b)
  · rw [if_neg c1] at eb
    rw [if_neg c1, if_pos (by rw [xf_keep_in _ σ ha]), xt_keep]
    have h1 := RIn_keep (v / h_c (x_tab σ j)) ha h
    have h2 := RIn_keep (v - v / h_c (x_tab σ j) * h_c (x_tab σ j)) hb2 h1
    exact out_end h2 (by rw [xf_keep_in _ _ hb2]) (by omega) (st0 h hB hj hw hv hs (by rw [eb]; exact mReach.refl _)) ((fx_keep _ _ _).trans (fx_keep _ _ _)) ((fm_keep _ _ _).trans (fm_keep _ _ _)) (Fr_keep _ _ (Fr_keep _ _ (Fr.refl t μ))) (Nat.le_refl b)
theorem misBox {a : Int32} (h : vp_in a 6) : ¬ mf_isBox a = 0 := by
  obtain ⟨i, hi, rfl⟩ := vp_in_of h (by decide)
  have h5 : ¬ (5 : Int32) < nI i := nI_nlt (b := i) (a := 5) (by omega) (by decide) |> fun z => fun q => absurd q (by
    intro q2
    have := (nI_ltI (a := 5) (b := i) (by decide) (by omega)).mp q2
    omega)
  unfold mf_isBox mf_in
  rw [if_neg (nI_pos (by omega)), if_neg h5]
  decide
theorem sA_9 (h : RIn B (t + 1) b σ μ) (hB : B + 2 ≤ 1000000000) (hj : j < x_n σ) (hw : m_wh μ t = nI j) (hv : m_va μ t = v) (hs : m_sg μ t = 0) (hso : m_so μ j = 9) : Out (B + 2) t b σ μ μ (xf_act (xf_begin d) j v (nI (t + 1)) σ) := by
  have hn := h.nn
  have e3 : (nI j).toNatClampNeg = j := nI_clamp (by omega)
  have H := h.tr hj
  have eb := begins_9 (nI t) (nI j) v μ (by rw [e3]; exact hso)
  rw [act_9 _ _ _ _ _ (H.1.symm.trans hso)]
  by_cases c1 : mf_isBox v.toInt32 = 0
  · rw [if_pos c1, if_pos c1] at eb
    have ek : xf_keep v.toInt32 1 σ = (3, σ) := by
      unfold xf_keep
      by_cases c2 : xf_isBox v.toInt32 = 0
      · rw [if_pos c2]
      · exact absurd c1 (misBox (xbox_in c2))
    rw [ek]
    exact out_end h rfl (by omega) (st0 h hB hj hw hv hs (by rw [eb]; exact mReach.refl _)) rfl rfl (Fr.refl t μ) (Nat.le_refl b)
  · rw [if_neg c1, if_neg c1] at eb
    have ha := mbox_in c1
    exact out_end (RIn_keep 1 ha h) (by rw [xf_keep_in _ σ ha]) (by omega) (st0 h hB hj hw hv hs (by rw [eb]; exact mReach.refl _)) (fx_keep _ _ _) (fm_keep _ _ _) (Fr_keep _ _ (Fr.refl t μ)) (Nat.le_refl b)
theorem sA_12 (h : RIn B (t + 1) b σ μ) (hB : B + 2 ≤ 1000000000) (hj : j < x_n σ) (hw : m_wh μ t = nI j) (hv : m_va μ t = v) (hs : m_sg μ t = 0) (hso : m_so μ j = 12) : Out (B + 2) t b σ μ μ (xf_act (xf_begin d) j v (nI (t + 1)) σ) := by
  have hn := h.nn
  have e3 : (nI j).toNatClampNeg = j := nI_clamp (by omega)
  have H := h.tr hj
  have hs2 : h_sort (x_tab σ j) = 12 := H.1.symm.trans hso
  obtain ⟨ea, ebb, ec⟩ : h_a (x_tab σ j) = 1 ∧ h_b (x_tab σ j) = 0 ∧ h_c (x_tab σ j) = -1 := by
    rcases H.2.2 with ⟨q, -, -⟩ | ⟨-, q1, q2, q3, -⟩ | ⟨-, -, -, -, -, -, -, ⟨s, q1, q2⟩, -⟩
    · rw [hs2] at q
      exact absurd q (by decide)
    · exact ⟨q1, q2, q3⟩
    · rw [hs2] at q2
      have := (nI_eq (a := 12) (b := s) (by decide) (by omega)).mp q2
      omega
  have ha : vp_in (h_a (x_tab σ j)) 6 := by rw [ea]; exact z_v16
  have eb := begins_12 (nI t) (nI j) v μ (by rw [e3]; exact hso)
  rw [act_12 _ _ _ _ _ hs2]
  unfold xf_keepAndSend
  have k1 : (xf_keep (h_a (x_tab σ j)) v σ).1 = 0 := by rw [xf_keep_in v σ ha]
  rw [if_pos k1]
  have h1 := RIn_keep v ha h
  rw [← ea] at eb
  by_cases c1 : lg_cmp v 1 ≤ 0
  · rw [if_pos c1]
    rw [if_pos c1] at eb
    exact out_end h1 k1 (by omega) (st0 h hB hj hw hv hs (by rw [eb]; exact mReach.refl _)) (fx_keep _ _ _) (fm_keep _ _ _) (Fr_keep _ _ (Fr.refl t μ)) (Nat.le_refl b)
  · rw [if_neg c1, xt_keep, ebb, ec]
    rw [if_neg c1, Int64.sub_eq_add_neg] at eb
    unfold mf_sends at eb
    rcases RIn_enq (v + -1) (vp_in_nI (n := 0) (N := 10) (by decide) (by decide)) h1 with ⟨q1, q2⟩ | ⟨q1, -, q2, q3⟩
    · rw [if_pos q1] at eb
      have q2 : xf_enqueue 0 (v + -1) (xf_keep (h_a (x_tab σ j)) v σ).2 = (5, (xf_keep (h_a (x_tab σ j)) v σ).2) := q2
      rw [q2]
      exact out_end h1 rfl (by omega) (st0 h hB hj hw hv hs (by rw [eb]; exact mReach.refl _)) (fx_keep _ _ _) (fm_keep _ _ _) (Fr_keep _ _ (Fr.refl t μ)) (Nat.le_refl b)
    · rw [if_neg q1] at eb
      exact out_end (R := xf_enqueue 0 (v + -1) (xf_keep (h_a (x_tab σ j)) v σ).2) q3 q2 (by omega) (st0 h hB hj hw hv hs (by rw [eb]; exact mReach.refl _)) ((fx_enqueue _ _ _).trans (fx_keep _ _ _)) ((fm_comes _ _ _).trans (fm_keep _ _ _)) (Fr_comes _ _ (Fr_keep _ _ (Fr.refl t μ))) (Nat.le_refl b)
end SIMB
