/-! inside a letter: what a handler does, on both sides -/
def Out (B : Int) (t b : Nat) (σ : SX) (μ st : SM) (R : Int32 × SX) : Prop :=
  ∃ (ν : SM) (c : Nat), mReach st ν ∧ RIn B t c R.2 ν ∧ m_fa ν = R.1 ∧ fx R.2 = fx σ ∧ fm ν = fm μ ∧ Fr t μ ν ∧ b ≤ c
def Kid (d t : Nat) : Prop := ∀ (B : Int) (b : Nat) (σ : SX) (μ : SM) (r : Option Nat) (v : Int64), RIn B t b σ μ → okr (x_n σ) r → B ≤ 1000000000 → Out B t b σ μ (mf_call (enc r) v μ) (xf_begin d r v (nI (t + 1)) σ)
theorem RIn.tpE {B : Int} {t b : Nat} {σ : SX} {μ : SM} (h : RIn B t b σ μ) : m_tp μ = nI t := h.2.2.2.2.2.2.1
theorem RIn.tpL {B : Int} {t b : Nat} {σ : SX} {μ : SM} (h : RIn B t b σ μ) : t ≤ 8 := h.2.2.2.2.2.2.2
theorem RIn.nn {B : Int} {t b : Nat} {σ : SX} {μ : SM} (h : RIn B t b σ μ) : x_n σ ≤ 202 := h.2.2.2.1.1
theorem RIn.ok {B : Int} {t b : Nat} {σ : SX} {μ : SM} (h : RIn B t b σ μ) : xok σ := h.2.2.2.1.2
theorem RIn.tr {B : Int} {t b : Nat} {σ : SX} {μ : SM} (h : RIn B t b σ μ) {j : Nat} (hj : j < x_n σ) : tRel (x_tab σ j) j (m_so μ) (m_as μ) (m_ki μ) (m_bs μ) (m_cs μ) (m_fo μ) (m_ot μ) (m_le μ) := h.2.2.1 j hj
theorem RIn.bl {B : Int} {t b : Nat} {σ : SX} {μ : SM} (h : RIn B t b σ μ) : x_bl σ = nI b ∧ m_bg μ = nI b ∧ b ≤ 16 := h.2.2.2.2.2.1
theorem RIn_ends {B : Int} {t b : Nat} {σ : SX} {μ : SM} (f : Int32) (h : RIn B (t + 1) b σ μ) : RIn B t b σ (mf_ends f μ) := by
  have h8 := h.tpL
  exact RIn_fa f (RIn_tp (by omega) (by rw [h.tpE]; exact nI_pred t) h)
theorem fm_ends (f : Int32) (μ : SM) : fm (mf_ends f μ) = fm μ := (fm_fa _ _).trans (fm_tp _ _)
theorem Fr_ends {t : Nat} {μ ν : SM} (f : Int32) (h : Fr t μ ν) : Fr t μ (mf_ends f ν) := Fr_fa _ (Fr_tp _ h)
theorem fa_ends (f : Int32) (μ : SM) : m_fa (mf_ends f μ) = f := mw_fa _ _
theorem RIn_pop {B : Int} {t b : Nat} {σ : SX} {μ : SM} (h : RIn B (t + 1) b σ μ) : RIn B t b σ (ms_tp μ (m_tp μ - 1)) := by
  have h8 := h.tpL
  exact RIn_tp (by omega) (by rw [h.tpE]; exact nI_pred t) h
theorem RIn_szL {B : Int} {t b : Nat} {σ : SX} {μ : SM} (h : RIn B t b σ μ) : ¬ m_sz μ = 40 → vp_in (m_sz μ) 40 := by
  obtain ⟨f, q, -, -, -, q4, q5, -⟩ := h.2.2.2.2.1
  intro hn
  rw [q4] at hn ⊢
  exact vp_in_nI (by
    rcases Nat.lt_or_ge q 40 with g | g
    · exact g
    · exact absurd (by rw [show q = 40 by omega]; rfl) hn) (by decide)
theorem RIn_tpV {B : Int} {t b : Nat} {σ : SX} {μ : SM} (h : RIn B t b σ μ) : ¬ m_tp μ = 8 → vp_in (m_tp μ) 8 := by
  have h8 := h.tpL
  intro hn
  rw [h.tpE] at hn ⊢
  exact vp_in_nI (by
    rcases Nat.lt_or_ge t 8 with g | g
    · exact g
    · exact absurd (by rw [show t = 8 by omega]; rfl) hn) (by decide)
/-- what the sort says of a handler's numbers -/
theorem tRel_a6 {h : HR} {i : Nat} {so as ki bs : Nat → Int32} {cs : Nat → Int64} {fo ot le : Nat → Int32} (H : tRel h i so as ki bs cs fo ot le) (hs : so i = 0 ∨ so i = 6 ∨ so i = 8 ∨ so i = 10 ∨ so i = 11) : vp_in (as i) 6 := by
  obtain ⟨h1, h2, h3⟩ := H
  rw [h1] at hs
  rw [h2]
  rcases h3 with ⟨-, g, -⟩ | ⟨g, -⟩ | ⟨-, -, -, -, -, -, -, g⟩
  · exact g
  · rw [g] at hs
    exact absurd hs (by decide)
  · exact g.2.2.1 hs
theorem tRel_2 {h : HR} {i : Nat} {so as ki bs : Nat → Int32} {cs : Nat → Int64} {fo ot le : Nat → Int32} (H : tRel h i so as ki bs cs fo ot le) (hs : ¬ so i = 0) (hs2 : ¬ so i = 12) : 2 ≤ i ∧ ki i = h_kind h ∧ bs i = h_b h ∧ cs i = h_c h ∧ fo i = enc (h_former h) ∧ ot i = enc (h_other h) ∧ le i = h_begun h ∧ hOK h := by
  obtain ⟨h1, h2, h3⟩ := H
  rw [h1] at hs hs2
  rcases h3 with ⟨g, -, -⟩ | ⟨g, -⟩ | g
  · exact absurd g hs
  · exact absurd g hs2
  · exact g
theorem z_i64 {c : Nat} (h : c < 2147483647) : ¬ (nI c + 1).toInt64 = 0 := by
  rw [nI_1]
  exact z_i0 (nI_ne0 (by omega) (by omega))
theorem RIn_lok {B : Int} {t b : Nat} {σ : SX} {μ : SM} {j : Nat} {v : Int64} (h : RIn B (t + 1) b σ μ) (hB : B ≤ 1000000000) (hj : j < x_n σ) (hw : m_wh μ t = nI j) (hv : m_va μ t = v) : mLOK μ := by
  have h8 := h.tpL
  have hn := h.nn
  have e1 : m_tp μ - 1 = nI t := by rw [h.tpE]; exact nI_pred t
  have e2 : (nI t).toNatClampNeg = t := nI_clamp (by omega)
  have e3 : (nI j).toNatClampNeg = j := nI_clamp (by omega)
  have H := h.tr hj
  unfold mLOK
  rw [e1, e2, hw, hv]
  refine ⟨by rw [h.tpE]; exact nI_nle (by omega) (by omega), ?_⟩
  unfold mBOK
  rw [e3]
  refine ⟨vp_in_nI (by omega) (by decide), vp_in_nI (by omega) (by decide), RIn_tpV h, RIn_szL h, fun hs => tRel_a6 H (Or.inl hs), fun hs => ?_, fun hs => ⟨tRel_a6 H (Or.inr (Or.inl hs)), ?_⟩, fun hs => ⟨tRel_a6 H (Or.inr (Or.inr (Or.inl hs))), ?_⟩, fun hs => ?_, fun hs => tRel_a6 H (Or.inr (Or.inr (Or.inr (Or.inl hs))))⟩
  · have g := tRel_2 H (by rw [hs]; decide) (by rw [hs]; decide)
    rw [H.2.1]
    rw [H.1] at hs
    exact g.2.2.2.2.2.2.2.2.2.2.1 (Or.inr (Or.inr (Or.inl hs)))
  · have g := tRel_2 H (by rw [hs]; decide) (by rw [hs]; decide)
    rw [g.2.1]
    exact g.2.2.2.2.2.2.2.2.1
  · have g := tRel_2 H (by rw [hs]; decide) (by rw [hs]; decide)
    rw [g.2.2.1]
    rw [H.1] at hs
    exact g.2.2.2.2.2.2.2.2.2.2.2.1 hs
  · have ha := tRel_a6 H (Or.inr (Or.inr (Or.inr (Or.inr hs))))
    refine ⟨ha, ?_⟩
    obtain ⟨i, hi, ei⟩ := vp_in_of ha (by decide)
    obtain ⟨-, -, c, g3, g4⟩ := h.1 i hi
    have hb := h.bl.2.2
    unfold mf_keep
    rw [mw_co, ei, nI_clamp (by omega), pk_us, g3]
    exact z_i64 (by omega)
theorem stp0 {B : Int} {t b : Nat} {σ : SX} {μ : SM} {j : Nat} {v : Int64} (h : RIn B (t + 1) b σ μ) (hw : m_wh μ t = nI j) (hv : m_va μ t = v) (hs : m_sg μ t = 0) : mStep μ = mf_begins (nI t) (nI j) v μ := by
  have h8 := h.tpL
  have e1 : m_tp μ - 1 = nI t := by rw [h.tpE]; exact nI_pred t
  have e2 : (nI t).toNatClampNeg = t := nI_clamp (by omega)
  unfold mStep
  rw [e1, e2, hw, hv, if_pos hs]
theorem stp1 {B : Int} {t b : Nat} {σ : SX} {μ : SM} {j : Nat} {v : Int64} (h : RIn B (t + 1) b σ μ) (hw : m_wh μ t = nI j) (hv : m_va μ t = v) (hs : ¬ m_sg μ t = 0) : mStep μ = mf_behind (nI t) (nI j) v μ := by
  have h8 := h.tpL
  have e1 : m_tp μ - 1 = nI t := by rw [h.tpE]; exact nI_pred t
  have e2 : (nI t).toNatClampNeg = t := nI_clamp (by omega)
  unfold mStep
  rw [e1, e2, hw, hv, if_neg hs]
theorem kid_goOn {d t : Nat} (hk : Kid d (t + 1)) {C : Int} {b : Nat} {σ : SX} {μ : SM} {r : Option Nat} (w : Int64) (h : RIn C (t + 1) b σ μ) (hr : okr (x_n σ) r) (hC : C ≤ 1000000000) :
    ∃ (ν : SM) (c : Nat), mReach (mf_goOn (nI t) (enc r) w μ) ν ∧ RIn C (t + 1) c (xf_begin d r w (nI (t + 1 + 1)) σ).2 ν ∧ m_fa ν = (xf_begin d r w (nI (t + 1 + 1)) σ).1 ∧ fx (xf_begin d r w (nI (t + 1 + 1)) σ).2 = fx σ ∧ fm ν = fm μ ∧ Fr t μ ν ∧ b ≤ c ∧ m_wh ν t = m_wh μ t ∧ m_va ν t = m_va μ t ∧ m_sg ν t = m_sg μ t + 1 := by
  have h8 := h.tpL
  have e2 : (nI t).toNatClampNeg = t := nI_clamp (by omega)
  obtain ⟨ν, c, g1, g2, g3, g4, g5, g6, g7⟩ := hk C b σ (ms_sg μ (upd (m_sg μ) t (m_sg μ t + 1))) r w (RIn_sg _ h) hr hC
  refine ⟨ν, c, ?_, g2, g3, g4, g5.trans (fm_sg _ _), fun i hi => ?_, g7, ?_, ?_, ?_⟩
  · unfold mf_goOn
    rw [e2]
    exact g1
  · obtain ⟨a1, a2, a3⟩ := g6 i (by omega)
    rw [mr_wh_sg] at a1
    rw [mw_sg, pk_un (by omega)] at a2
    rw [mr_va_sg] at a3
    exact ⟨a1, a2, a3⟩
  · have a := (g6 t (by omega)).1
    rw [mr_wh_sg] at a
    exact a
  · have a := (g6 t (by omega)).2.2
    rw [mr_va_sg] at a
    exact a
  · have a := (g6 t (by omega)).2.1
    rw [mw_sg, pk_us] at a
    exact a
theorem behind_pop (ix h : Int32) (v : Int64) (μ : SM) (h1 : ¬ m_so μ h.toNatClampNeg = 10) (h2 : ¬ m_so μ h.toNatClampNeg = 7) : mf_behind ix h v μ = ms_tp μ (m_tp μ - 1) := by
  unfold mf_behind
  rw [if_neg h1, if_neg h2]
