section SIMA
variable {d t : Nat} {B : Int} {b : Nat} {σ : SX} {μ : SM} {j : Nat} {v : Int64}
theorem st0 (h : RIn B (t + 1) b σ μ) (hB : B + 2 ≤ 1000000000) (hj : j < x_n σ) (hw : m_wh μ t = nI j) (hv : m_va μ t = v) (hs : m_sg μ t = 0) {ν : SM} (k : mReach (mf_begins (nI t) (nI j) v μ) ν) : mReach μ ν :=
  mReach.step (RIn_lok h (by omega) hj hw hv) (by rw [stp0 h hw hv hs]; exact k)
theorem st1 (h : RIn B (t + 1) b σ μ) (hB : B ≤ 1000000000) (hj : j < x_n σ) (hw : m_wh μ t = nI j) (hv : m_va μ t = v) (hs : ¬ m_sg μ t = 0) {ν : SM} (k : mReach (mf_behind (nI t) (nI j) v μ) ν) : mReach μ ν :=
  mReach.step (RIn_lok h hB hj hw hv) (by rw [stp1 h hw hv hs]; exact k)
theorem out_end {R : Int32 × SX} {C : Int} {c : Nat} {μ' : SM} {f : Int32} (hR : RIn C (t + 1) c R.2 μ') (hf : R.1 = f) (hC : C ≤ B + 2) (hm : mReach μ (mf_ends f μ')) (hx : fx R.2 = fx σ) (hm2 : fm μ' = fm μ) (hF : Fr t μ μ') (hc : b ≤ c) : Out (B + 2) t b σ μ μ R :=
  ⟨mf_ends f μ', c, hm, (RIn_ends f hR).up hC, (fa_ends f μ').trans hf.symm, hx, (fm_ends f μ').trans hm2, Fr_ends f hF, hc⟩
theorem z_fmn {μ ν : SM} (h : fm ν = fm μ) : m_so ν = m_so μ := by
  have := congrArg (fun x => x.2.2.2.2.2.2.2.2.1) h
  exact this
theorem out_pop {R : Int32 × SX} {C : Int} {c : Nat} {ν : SM} (hj : j < x_n R.2) (hR : RIn C (t + 1) c R.2 ν) (hf : m_fa ν = R.1) (hC : C ≤ B + 2) (hB : B + 2 ≤ 1000000000) (hm : mReach μ ν) (hx : fx R.2 = fx σ) (hm2 : fm ν = fm μ) (hF : Fr t μ ν) (hc : b ≤ c) (hw : m_wh ν t = nI j) (hv : m_va ν t = v) (hs : ¬ m_sg ν t = 0) (h1 : ¬ m_so μ j = 10) (h2 : ¬ m_so μ j = 7) : Out (B + 2) t b σ μ μ R := by
  have hn := hR.nn
  have e3 : (nI j).toNatClampNeg = j := nI_clamp (by omega)
  have e4 := z_fmn hm2
  refine ⟨ms_tp ν (m_tp ν - 1), c, hm.trans (st1 hR (by omega) hj hw hv hs ?_), (RIn_pop hR).up hC, (mr_fa_tp _ _).trans hf, hx, (fm_tp _ _).trans hm2, Fr_tp _ hF, hc⟩
  rw [behind_pop _ _ _ _ (by rw [e3, e4]; exact h1) (by rw [e3, e4]; exact h2)]
  exact mReach.refl _
theorem fx_n {σ τ : SX} (h : fx τ = fx σ) : x_n τ = x_n σ := by
  have := congrArg (fun x => x.2.2.2.2.2.2.2) h
  exact this
theorem sA_0 (h : RIn B (t + 1) b σ μ) (hB : B + 2 ≤ 1000000000) (hj : j < x_n σ) (hw : m_wh μ t = nI j) (hv : m_va μ t = v) (hs : m_sg μ t = 0) (hso : m_so μ j = 0) : Out (B + 2) t b σ μ μ (xf_act (xf_begin d) j v (nI (t + 1)) σ) := by
  have hn := h.nn
  have e3 : (nI j).toNatClampNeg = j := nI_clamp (by omega)
  have H := h.tr hj
  have ha := tRel_a6 H (Or.inl hso)
  rw [H.2.1] at ha
  rw [act_0 _ _ _ _ _ (H.1.symm.trans hso)]
  refine out_end (RIn_keep v ha h) (by rw [xf_keep_in v σ ha]) (by omega) (st0 h hB hj hw hv hs ?_) (fx_keep _ _ _) (fm_keep _ _ _) (Fr_keep _ _ (Fr.refl t μ)) (Nat.le_refl b)
  rw [begins_0 _ _ _ _ (by rw [e3]; exact hso), e3, H.2.1]
  exact mReach.refl _
theorem sA_1 (h : RIn B (t + 1) b σ μ) (hB : B + 2 ≤ 1000000000) (hj : j < x_n σ) (hw : m_wh μ t = nI j) (hv : m_va μ t = v) (hs : m_sg μ t = 0) (hso : m_so μ j = 1) : Out (B + 2) t b σ μ μ (xf_act (xf_begin d) j v (nI (t + 1)) σ) := by
  have hn := h.nn
  have e3 : (nI j).toNatClampNeg = j := nI_clamp (by omega)
  have H := h.tr hj
  have g := tRel_2 H (by rw [hso]; decide) (by rw [hso]; decide)
  have hs2 : h_sort (x_tab σ j) = 1 := H.1.symm.trans hso
  have ha := g.2.2.2.2.2.2.2.2.2.2.1 (Or.inl hs2)
  rw [act_1 _ _ _ _ _ hs2]
  have eb : mf_begins (nI t) (nI j) v μ = mf_sends (h_a (x_tab σ j)) (v + h_c (x_tab σ j)) μ := by
    rw [begins_1 _ _ _ _ (by rw [e3]; exact hso), e3, H.2.1, g.2.2.2.1]
  rcases RIn_enq (v + h_c (x_tab σ j)) ha h with ⟨q1, q2⟩ | ⟨q1, -, q2, q3⟩
  · rw [q2]
    refine out_end h rfl (by omega) (st0 h hB hj hw hv hs ?_) rfl rfl (Fr.refl t μ) (Nat.le_refl b)
    rw [eb]
    unfold mf_sends
    rw [if_pos q1]
    exact mReach.refl _
  · refine out_end q3 q2 (by omega) (st0 h hB hj hw hv hs ?_) (fx_enqueue _ _ _) (fm_comes _ _ _) (Fr_comes _ _ (Fr.refl t μ)) (Nat.le_refl b)
    rw [eb]
    unfold mf_sends
    rw [if_neg q1]
    exact mReach.refl _
/-- a handler that goes on with another, and is done behind it -/
theorem sA_kid {r : Option Nat} {w : Int64} {C : Int} {σ1 : SX} {μ1 : SM} (hk : Kid d (t + 1)) (h : RIn B (t + 1) b σ μ) (hB : B + 2 ≤ 1000000000) (hj : j < x_n σ) (hw : m_wh μ t = nI j) (hv : m_va μ t = v) (hs : m_sg μ t = 0) (h10 : ¬ m_so μ j = 10) (h7 : ¬ m_so μ j = 7)
    (h1 : RIn C (t + 1) b σ1 μ1) (hC : C ≤ B + 2) (hr : okr (x_n σ1) r) (hx : fx σ1 = fx σ) (hm : fm μ1 = fm μ) (hF : Fr t μ μ1) (ew : m_wh μ1 = m_wh μ) (ev : m_va μ1 = m_va μ) (es : m_sg μ1 = m_sg μ)
    (eb : mf_begins (nI t) (nI j) v μ = mf_goOn (nI t) (enc r) w μ1) : Out (B + 2) t b σ μ μ (xf_begin d r w (nI (t + 1 + 1)) σ1) := by
  obtain ⟨ν, c, g1, g2, g3, g4, g5, g6, g7, g8, g9, g10⟩ := kid_goOn hk w h1 hr (by omega)
  have en := fx_n (g4.trans hx)
  refine out_pop (j := j) (v := v) (by rw [en]; exact hj) g2 g3 hC hB (st0 h hB hj hw hv hs (by rw [eb]; exact g1)) (g4.trans hx) (g5.trans hm) (hF.trans g6) g7 (by rw [g8, ew]; exact hw) (by rw [g9, ev]; exact hv) (by rw [g10, es, hs]; decide) h10 h7
theorem sA_2 (hk : Kid d (t + 1)) (h : RIn B (t + 1) b σ μ) (hB : B + 2 ≤ 1000000000) (hj : j < x_n σ) (hw : m_wh μ t = nI j) (hv : m_va μ t = v) (hs : m_sg μ t = 0) (hso : m_so μ j = 2) : Out (B + 2) t b σ μ μ (xf_act (xf_begin d) j v (nI (t + 1)) σ) := by
  have hn := h.nn
  have e3 : (nI j).toNatClampNeg = j := nI_clamp (by omega)
  have H := h.tr hj
  have g := tRel_2 H (by rw [hso]; decide) (by rw [hso]; decide)
  rw [act_2 _ _ _ _ _ (H.1.symm.trans hso), nI_1]
  refine sA_kid hk h hB hj hw hv hs (by rw [hso]; decide) (by rw [hso]; decide) h (by omega) (h.ok.2 j).2 rfl rfl (Fr.refl t μ) rfl rfl rfl ?_
  rw [begins_2 _ _ _ _ (by rw [e3]; exact hso), e3, g.2.2.2.1, g.2.2.2.2.2.1]
theorem xf_handlerOf_in {k : Int32} (σ : SX) (h : vp_in k 10) : xf_handlerOf k σ = x_hd σ k.toNatClampNeg := by
  unfold xf_handlerOf
  rw [if_neg (xisKind h)]
theorem RIn_st (h : RIn B t b σ μ) {k : Int32} (hk : vp_in k 10) : m_st μ k.toNatClampNeg = enc (x_hd σ k.toNatClampNeg) := by
  obtain ⟨i, hi, rfl⟩ := vp_in_of hk (by decide)
  rw [nI_clamp (by omega)]
  exact h.2.1 i hi
theorem sA_3 (hk : Kid d (t + 1)) (h : RIn B (t + 1) b σ μ) (hB : B + 2 ≤ 1000000000) (hj : j < x_n σ) (hw : m_wh μ t = nI j) (hv : m_va μ t = v) (hs : m_sg μ t = 0) (hso : m_so μ j = 3) : Out (B + 2) t b σ μ μ (xf_act (xf_begin d) j v (nI (t + 1)) σ) := by
  have hn := h.nn
  have e3 : (nI j).toNatClampNeg = j := nI_clamp (by omega)
  have H := h.tr hj
  have g := tRel_2 H (by rw [hso]; decide) (by rw [hso]; decide)
  have hs2 : h_sort (x_tab σ j) = 3 := H.1.symm.trans hso
  have ha := g.2.2.2.2.2.2.2.2.2.2.1 (Or.inr (Or.inr (Or.inl hs2)))
  rw [act_3 _ _ _ _ _ hs2, nI_1, xf_handlerOf_in σ ha]
  refine sA_kid hk h hB hj hw hv hs (by rw [hso]; decide) (by rw [hso]; decide) h (by omega) (h.ok.1 _) rfl rfl (Fr.refl t μ) rfl rfl rfl ?_
  rw [begins_3 _ _ _ _ (by rw [e3]; exact hso), e3, g.2.2.2.1, H.2.1, RIn_st h ha]
theorem sA_4 (hk : Kid d (t + 1)) (h : RIn B (t + 1) b σ μ) (hB : B + 2 ≤ 1000000000) (hj : j < x_n σ) (hw : m_wh μ t = nI j) (hv : m_va μ t = v) (hs : m_sg μ t = 0) (hso : m_so μ j = 4) : Out (B + 2) t b σ μ μ (xf_act (xf_begin d) j v (nI (t + 1)) σ) := by
  have hn := h.nn
  have e3 : (nI j).toNatClampNeg = j := nI_clamp (by omega)
  have H := h.tr hj
  have g := tRel_2 H (by rw [hso]; decide) (by rw [hso]; decide)
  have eb := begins_4 (nI t) (nI j) v μ (by rw [e3]; exact hso)
  rw [e3, g.2.2.2.1, H.2.1, g.2.2.2.2.1] at eb
  rw [act_4 _ _ _ _ _ (H.1.symm.trans hso)]
  unfold xf_sift
  by_cases c1 : lg_cmp (h_c (x_tab σ j)) 0 = 0
  · rw [if_pos c1]
    rw [if_pos c1] at eb
    exact out_end h rfl (by omega) (st0 h hB hj hw hv hs (by rw [eb]; exact mReach.refl _)) rfl rfl (Fr.refl t μ) (Nat.le_refl b)
  · rw [if_neg c1]
    rw [if_neg c1] at eb
    by_cases c2 : lg_cmp (v - v / h_c (x_tab σ j) * h_c (x_tab σ j)) (h_a (x_tab σ j)).toInt64 = 0
    · rw [if_pos c2, nI_1]
      rw [if_pos c2] at eb
      exact sA_kid hk h hB hj hw hv hs (by rw [hso]; decide) (by rw [hso]; decide) h (by omega) (h.ok.2 j).1 rfl rfl (Fr.refl t μ) rfl rfl rfl eb
    · rw [if_neg c2]
      rw [if_neg c2] at eb
      exact out_end h rfl (by omega) (st0 h hB hj hw hv hs (by rw [eb]; exact mReach.refl _)) rfl rfl (Fr.refl t μ) (Nat.le_refl b)
end SIMA
