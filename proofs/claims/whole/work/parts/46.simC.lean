section SIMC
variable {d t : Nat} {B : Int} {b : Nat} {σ : SX} {μ : SM} {j : Nat} {v : Int64}
theorem behind_7a (ix h : Int32) (v : Int64) (μ : SM) (h1 : m_so μ h.toNatClampNeg = 7) (h2 : ¬ m_fa μ = 0) : mf_behind ix h v μ = ms_tp μ (m_tp μ - 1) := by
  unfold mf_behind
  rw [if_neg (by rw [h1]; decide), if_pos h1]
  by_cases c : m_sg μ ix.toNatClampNeg = 1
  · rw [if_pos c, if_neg h2]
  · rw [if_neg c]
theorem behind_7b (ix h : Int32) (v : Int64) (μ : SM) (h1 : m_so μ h.toNatClampNeg = 7) (h2 : m_fa μ = 0) (h3 : m_sg μ ix.toNatClampNeg = 1) : mf_behind ix h v μ = mf_goOn ix (m_ot μ h.toNatClampNeg) v μ := by
  unfold mf_behind
  rw [if_neg (by rw [h1]; decide), if_pos h1, if_pos h3, if_pos h2]
theorem behind_7c (ix h : Int32) (v : Int64) (μ : SM) (h1 : m_so μ h.toNatClampNeg = 7) (h3 : ¬ m_sg μ ix.toNatClampNeg = 1) : mf_behind ix h v μ = ms_tp μ (m_tp μ - 1) := by
  unfold mf_behind
  rw [if_neg (by rw [h1]; decide), if_pos h1, if_neg h3]
theorem behind_10a (ix h : Int32) (v : Int64) (μ : SM) (h1 : m_so μ h.toNatClampNeg = 10) (h2 : m_fa μ = 0 ∨ m_fa μ = 6) : mf_behind ix h v μ = ms_tp μ (m_tp μ - 1) := by
  have h7 : ¬ m_so μ h.toNatClampNeg = 7 := by rw [h1]; decide
  unfold mf_behind
  rw [if_pos h1]
  rcases h2 with h2 | h2
  · rw [if_pos h2, if_neg h7]
  · rw [if_neg (by rw [h2]; decide), if_pos h2, if_neg h7]
theorem behind_10b (ix h : Int32) (v : Int64) (μ : SM) (h1 : m_so μ h.toNatClampNeg = 10) (h2 : ¬ m_fa μ = 0) (h3 : ¬ m_fa μ = 6) : mf_behind ix h v μ = mf_ends 0 (mf_keep (m_as μ h.toNatClampNeg) (m_fa μ).toInt64 μ) := by
  unfold mf_behind
  rw [if_pos h1, if_neg h2, if_neg h3]
theorem out_pop2 {R : Int32 × SX} {C : Int} {c : Nat} {ν : SM} (hj : j < x_n R.2) (hR : RIn C (t + 1) c R.2 ν) (hf : m_fa ν = R.1) (hC : C ≤ B + 2) (hB : B + 2 ≤ 1000000000) (hm : mReach μ ν) (hx : fx R.2 = fx σ) (hm2 : fm ν = fm μ) (hF : Fr t μ ν) (hc : b ≤ c) (hw : m_wh ν t = nI j) (hv : m_va ν t = v) (hs : ¬ m_sg ν t = 0) (eb : mf_behind (nI t) (nI j) v ν = ms_tp ν (m_tp ν - 1)) : Out (B + 2) t b σ μ μ R :=
  ⟨ms_tp ν (m_tp ν - 1), c, hm.trans (st1 hR (by omega) hj hw hv hs (by rw [eb]; exact mReach.refl _)), (RIn_pop hR).up hC, (mr_fa_tp _ _).trans hf, hx, (fm_tp _ _).trans hm2, Fr_tp _ hF, hc⟩
theorem sA_7 (hk : Kid d (t + 1)) (h : RIn B (t + 1) b σ μ) (hB : B + 2 ≤ 1000000000) (hj : j < x_n σ) (hw : m_wh μ t = nI j) (hv : m_va μ t = v) (hs : m_sg μ t = 0) (hso : m_so μ j = 7) : Out (B + 2) t b σ μ μ (xf_act (xf_begin d) j v (nI (t + 1)) σ) := by
  have hn := h.nn
  have e3 : (nI j).toNatClampNeg = j := nI_clamp (by omega)
  have H := h.tr hj
  have g := tRel_2 H (by rw [hso]; decide) (by rw [hso]; decide)
  have h8 := h.tpL
  have e2 : (nI t).toNatClampNeg = t := nI_clamp (by omega)
  have eb := begins_7 (nI t) (nI j) v μ (by rw [e3]; exact hso)
  rw [e3, g.2.2.2.2.1] at eb
  rw [act_7 _ _ _ _ _ (H.1.symm.trans hso)]
  unfold xf_both
  rw [nI_1]
  obtain ⟨ν, c, g1, g2, g3, g4, g5, g6, g7, g8, g9, g10⟩ := kid_goOn hk v h (h.ok.2 j).1 (by omega)
  have en := fx_n g4
  have r1 : mReach μ ν := st0 h hB hj hw hv hs (by rw [eb]; exact g1)
  have hj1 : j < x_n (xf_begin d (h_former (x_tab σ j)) v (nI (t + 1 + 1)) σ).2 := by rw [en]; exact hj
  have s1 : m_sg ν t = 1 := by rw [g10, hs]; decide
  have so1 : m_so ν (nI j).toNatClampNeg = 7 := by rw [e3, z_fmn g5]; exact hso
  have w1 : m_wh ν t = nI j := g8.trans hw
  have v1 : m_va ν t = v := g9.trans hv
  generalize xf_begin d (h_former (x_tab σ j)) v (nI (t + 1 + 1)) σ = R at g2 g3 g4 en hj1 ⊢
  by_cases c1 : R.1 = 0
  · rw [if_pos c1]
    have H1 := g2.tr hj1
    have q := tRel_2 H1 (by rw [z_fmn g5, hso]; decide) (by rw [z_fmn g5, hso]; decide)
    have eb2 := behind_7b (nI t) (nI j) v ν so1 (g3.trans c1) (by rw [e2]; exact s1)
    rw [e3, q.2.2.2.2.2.1] at eb2
    obtain ⟨ν2, c2, k1, k2, k3, k4, k5, k6, k7, k8, k9, k10⟩ := kid_goOn hk v g2 (g2.ok.2 j).2 (by omega)
    refine out_pop2 (j := j) (v := v) (by rw [fx_n k4]; exact hj1) k2 k3 (by omega) hB (r1.trans (st1 g2 (by omega) hj1 w1 v1 (by rw [s1]; decide) (by rw [eb2]; exact k1))) (k4.trans g4) (k5.trans g5) (g6.trans k6) (by omega) (k8.trans w1) (k9.trans v1) (by rw [k10, s1]; decide) (behind_7c _ _ _ _ (by rw [e3, z_fmn k5, z_fmn g5]; exact hso) (by rw [e2, k10, s1]; decide))
  · rw [if_neg c1]
    exact out_pop2 (j := j) (v := v) hj1 g2 g3 (by omega) hB r1 g4 g5 g6 g7 w1 v1 (by rw [s1]; decide) (behind_7a _ _ _ _ so1 (by rw [g3]; exact c1))
theorem sA_10 (hk : Kid d (t + 1)) (h : RIn B (t + 1) b σ μ) (hB : B + 2 ≤ 1000000000) (hj : j < x_n σ) (hw : m_wh μ t = nI j) (hv : m_va μ t = v) (hs : m_sg μ t = 0) (hso : m_so μ j = 10) : Out (B + 2) t b σ μ μ (xf_act (xf_begin d) j v (nI (t + 1)) σ) := by
  have hn := h.nn
  have e3 : (nI j).toNatClampNeg = j := nI_clamp (by omega)
  have H := h.tr hj
  have g := tRel_2 H (by rw [hso]; decide) (by rw [hso]; decide)
  have eb := begins_10 (nI t) (nI j) v μ (by rw [e3]; exact hso)
  rw [e3, g.2.2.2.2.1] at eb
  rw [act_10 _ _ _ _ _ (H.1.symm.trans hso)]
  unfold xf_keepFailure
  rw [nI_1]
  obtain ⟨ν, c, g1, g2, g3, g4, g5, g6, g7, g8, g9, g10⟩ := kid_goOn hk v h (h.ok.2 j).1 (by omega)
  have en := fx_n g4
  have r1 : mReach μ ν := st0 h hB hj hw hv hs (by rw [eb]; exact g1)
  have hj1 : j < x_n (xf_begin d (h_former (x_tab σ j)) v (nI (t + 1 + 1)) σ).2 := by rw [en]; exact hj
  have s1 : ¬ m_sg ν t = 0 := by rw [g10, hs]; decide
  have so1 : m_so ν (nI j).toNatClampNeg = 10 := by rw [e3, z_fmn g5]; exact hso
  have w1 : m_wh ν t = nI j := g8.trans hw
  have v1 : m_va ν t = v := g9.trans hv
  generalize xf_begin d (h_former (x_tab σ j)) v (nI (t + 1 + 1)) σ = R at g2 g3 g4 en hj1 ⊢
  by_cases c1 : R.1 = 0
  · rw [if_pos c1]
    exact out_pop2 (j := j) (v := v) hj1 g2 g3 (by omega) hB r1 g4 g5 g6 g7 w1 v1 s1 (behind_10a _ _ _ _ so1 (Or.inl (g3.trans c1)))
  · rw [if_neg c1]
    by_cases c2 : R.1 = 6
    · rw [if_pos c2]
      exact out_pop2 (j := j) (v := v) hj1 g2 g3 (by omega) hB r1 g4 g5 g6 g7 w1 v1 s1 (behind_10a _ _ _ _ so1 (Or.inr (g3.trans c2)))
    · rw [if_neg c2]
      have H1 := g2.tr hj1
      have ha := tRel_a6 H1 (Or.inr (Or.inr (Or.inr (Or.inl (by rw [z_fmn g5]; exact hso)))))
      have eb2 := behind_10b (nI t) (nI j) v ν so1 (by rw [g3]; exact c1) (by rw [g3]; exact c2)
      rw [e3, H1.2.1, g3] at eb2
      rw [H1.2.1] at ha
      have h1 := RIn_keep (R.1.toInt64) ha g2
      exact out_end h1 (by rw [xf_keep_in _ _ ha]) (by omega) (r1.trans (st1 g2 (by omega) hj1 w1 v1 s1 (by rw [eb2]; exact mReach.refl _))) ((fx_keep _ _ _).trans g4) ((fm_keep _ _ _).trans g5) (Fr_keep _ _ g6) g7
theorem sA_11 (hk : Kid d (t + 1)) (h : RIn B (t + 1) b σ μ) (hB : B + 2 ≤ 1000000000) (hj : j < x_n σ) (hw : m_wh μ t = nI j) (hv : m_va μ t = v) (hs : m_sg μ t = 0) (hso : m_so μ j = 11) : Out (B + 2) t b σ μ μ (xf_act (xf_begin d) j v (nI (t + 1)) σ) := by
  have hn := h.nn
  have e3 : (nI j).toNatClampNeg = j := nI_clamp (by omega)
  have H := h.tr hj
  have g := tRel_2 H (by rw [hso]; decide) (by rw [hso]; decide)
  have hs2 : h_sort (x_tab σ j) = 11 := H.1.symm.trans hso
  have ha := g.2.2.2.2.2.2.2.2.2.1 (Or.inr (Or.inr (Or.inr (Or.inr hs2))))
  have eb := begins_11 (nI t) (nI j) v μ (by rw [e3]; exact hso)
  rw [e3, H.2.1, mq_fo_keep, g.2.2.2.2.1] at eb
  rw [act_11 _ _ _ _ _ hs2]
  unfold xf_mean
  have k1 : (xf_keep (h_a (x_tab σ j)) v σ).1 = 0 := by rw [xf_keep_in v σ ha]
  have h1 := RIn_keep v ha h
  have okf : okr (x_n σ) (h_former (x_tab σ j)) := (h.ok.2 j).1
  rw [if_pos k1, xt_keep]
  by_cases c1 : h_former (x_tab σ j) = none
  · rw [if_pos c1]
    rw [if_neg (fun q => ((enc_ge okf hn).mp q) c1)] at eb
    exact out_end h1 k1 (by omega) (st0 h hB hj hw hv hs (by rw [eb]; exact mReach.refl _)) (fx_keep _ _ _) (fm_keep _ _ _) (Fr_keep _ _ (Fr.refl t μ)) (Nat.le_refl b)
  · rw [if_pos ((enc_ge okf hn).mpr c1)] at eb
    obtain ⟨i, hi, ei⟩ := vp_in_of ha (by decide)
    have q := h1.1 i hi
    have ec : (h_a (x_tab σ j)).toNatClampNeg = i := by rw [ei]; exact nI_clamp (by omega)
    obtain ⟨-, -, c0, z3, z4⟩ := h.1 i hi
    have hb16 := h.bl.2.2
    have cn : ¬ x_bc (xf_keep (h_a (x_tab σ j)) v σ).2 (h_a (x_tab σ j)).toNatClampNeg = 0 := by
      rw [ec, q.2.1]
      unfold mf_keep
      rw [mw_co, ec, pk_us, z3, nI_1]
      exact nI_ne0 (by omega) (by omega)
    rw [if_neg c1, if_neg (xisBox ha), if_neg cn, nI_1]
    have e5 : x_bs (xf_keep (h_a (x_tab σ j)) v σ).2 (h_a (x_tab σ j)).toNatClampNeg = m_su (mf_keep (h_a (x_tab σ j)) v μ) (h_a (x_tab σ j)).toNatClampNeg := by rw [ec]; exact q.1
    have e6 : x_bc (xf_keep (h_a (x_tab σ j)) v σ).2 (h_a (x_tab σ j)).toNatClampNeg = m_co (mf_keep (h_a (x_tab σ j)) v μ) (h_a (x_tab σ j)).toNatClampNeg := by rw [ec]; exact q.2.1
    rw [e5, e6]
    exact sA_kid hk h hB hj hw hv hs (by rw [hso]; decide) (by rw [hso]; decide) h1 (by omega) (by rw [xp_n_keep]; exact okf) (fx_keep _ _ _) (fm_keep _ _ _) (Fr_keep _ _ (Fr.refl t μ)) ((mr_wh_co _ _).trans (mr_wh_su _ _)) ((mr_va_co _ _).trans (mr_va_su _ _)) ((mr_sg_co _ _).trans (mr_sg_su _ _)) eb
theorem sA (hk : Kid d (t + 1)) (h : RIn B (t + 1) b σ μ) (hB : B + 2 ≤ 1000000000) (hj : j < x_n σ) (hw : m_wh μ t = nI j) (hv : m_va μ t = v) (hs : m_sg μ t = 0) : Out (B + 2) t b σ μ μ (xf_act (xf_begin d) j v (nI (t + 1)) σ) := by
  have hn := h.nn
  have H := h.tr hj
  rcases H.2.2 with ⟨q, -, -⟩ | ⟨q, -⟩ | ⟨-, -, -, -, -, -, -, ⟨s, q1, q2⟩, -⟩
  · exact sA_0 h hB hj hw hv hs (H.1.trans q)
  · exact sA_12 h hB hj hw hv hs (H.1.trans q)
  · have hso : m_so μ j = nI s := H.1.trans q2
    rcases (show s = 0 ∨ s = 1 ∨ s = 2 ∨ s = 3 ∨ s = 4 ∨ s = 5 ∨ s = 6 ∨ s = 7 ∨ s = 8 ∨ s = 9 ∨ s = 10 ∨ s = 11 by omega) with rfl | rfl | rfl | rfl | rfl | rfl | rfl | rfl | rfl | rfl | rfl | rfl
    · exact sA_0 h hB hj hw hv hs hso
    · exact sA_1 h hB hj hw hv hs hso
    · exact sA_2 hk h hB hj hw hv hs hso
    · exact sA_3 hk h hB hj hw hv hs hso
    · exact sA_4 hk h hB hj hw hv hs hso
    · exact sA_5 hk h hB hj hw hv hs hso
    · exact sA_6 h hB hj hw hv hs hso
    · exact sA_7 hk h hB hj hw hv hs hso
    · exact sA_8 h hB hj hw hv hs hso
    · exact sA_9 h hB hj hw hv hs hso
    · exact sA_10 hk h hB hj hw hv hs hso
    · exact sA_11 hk h hB hj hw hv hs hso
end SIMC
