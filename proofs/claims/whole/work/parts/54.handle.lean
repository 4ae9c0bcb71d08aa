noncomputable def mHR (k so a b : Int32) (w : Int64) (o : Int32) (μ : SM) : Int32 × SM := if (upd (m_fo μ) (m_many μ).toNatClampNeg (m_st μ k.toNatClampNeg)) (m_many μ).toNatClampNeg < 0 then (0, mHT k so a b w o μ) else (1, mHT k so a b w o μ)
noncomputable def mTT (k so a b : Int32) (w : Int64) (μ : SM) : Int32 × SM := if m_many μ = 202 then (-4, μ) else if so = 2 then mHR k so a b w (m_st μ a.toNatClampNeg) μ else if so = 7 then mHR k so a b w (m_st μ a.toNatClampNeg) μ else mHR k so a b w (-1) μ
theorem mf_handleE (k so a b : Int32) (w : Int64) (μ : SM) : mf_handle k so a b w μ = if mf_in so 0 11 = 0 then (-3, μ) else if mf_isKind k = 0 then (-2, μ) else if mf_areKnown so a b = 0 then (-2, μ) else if so = 5 then (if mf_in b 0 100 = 0 then (-3, μ) else mTT k so a b w μ) else mTT k so a b w μ := by
  unfold mf_handle mTT mHR mHT
  rfl
noncomputable def xTT (k so a b : Int32) (w : Int64) (σ : SX) : Int32 × SX := if x_told σ < 200 then (if so = 2 then xf_handleT k so a b w (xf_handlerOf a σ) σ else if so = 7 then xf_handleT k so a b w (xf_handlerOf a σ) σ else xf_handleT k so a b w none σ) else (-4, σ)
theorem xf_handleE (k so a b : Int32) (w : Int64) (σ : SX) : xf_handle k so a b w σ = if so < 0 then (-3, σ) else if so ≤ 11 then (if xf_isKind k = 0 then (-2, σ) else if xf_namesKnown so a b = 0 then (-2, σ) else if so = 5 then (if b < 0 then (-3, σ) else if b ≤ 100 then xTT k so a b w σ else (-3, σ)) else xTT k so a b w σ) else (-3, σ) := by
  unfold xf_handle xTT
  rfl
theorem isBoxV (a : Int32) : xf_isBox a = mf_isBox a := by
  unfold xf_isBox mf_isBox mf_in
  by_cases c : a < 0
  · rw [if_pos c, if_pos c]
  · rw [if_neg c, if_neg c]
    have e5 : (5 : Int32).toInt = 5 := by decide
    have e6 : (6 : Int32).toInt = 6 := by decide
    by_cases c2 : 6 ≤ a
    · rw [if_pos c2, if_pos (by rw [Int32.le_iff_toInt_le] at c2; rw [Int32.lt_iff_toInt_lt]; omega)]
    · rw [if_neg c2, if_neg (by rw [Int32.le_iff_toInt_le] at c2; rw [Int32.lt_iff_toInt_lt]; omega)]
theorem isKindV (a : Int32) : xf_isKind a = mf_isKind a := by
  unfold xf_isKind mf_isKind mf_in
  by_cases c : a < 0
  · rw [if_pos c, if_pos c]
  · rw [if_neg c, if_neg c]
    have e5 : (9 : Int32).toInt = 9 := by decide
    have e6 : (10 : Int32).toInt = 10 := by decide
    by_cases c2 : 10 ≤ a
    · rw [if_pos c2, if_pos (by rw [Int32.le_iff_toInt_le] at c2; rw [Int32.lt_iff_toInt_lt]; omega)]
    · rw [if_neg c2, if_neg (by rw [Int32.le_iff_toInt_le] at c2; rw [Int32.lt_iff_toInt_lt]; omega)]
theorem knownV (so a b : Int32) : xf_namesKnown so a b = mf_areKnown so a b := by
  unfold xf_namesKnown mf_areKnown
  simp only [isBoxV, isKindV]
theorem known_0 (a b : Int32) : mf_areKnown 0 a b = mf_isBox a := by
  unfold mf_areKnown
  rw [if_pos rfl]
theorem known_1 (a b : Int32) : mf_areKnown 1 a b = mf_isKind a := by
  unfold mf_areKnown
  rw [if_neg (by decide), if_pos rfl]
theorem known_2 (a b : Int32) : mf_areKnown 2 a b = mf_isKind a := by
  unfold mf_areKnown
  rw [if_neg (by decide), if_neg (by decide), if_pos rfl]
theorem known_3 (a b : Int32) : mf_areKnown 3 a b = mf_isKind a := by
  unfold mf_areKnown
  rw [if_neg (by decide), if_neg (by decide), if_neg (by decide), if_pos rfl]
theorem known_6 (a b : Int32) : mf_areKnown 6 a b = mf_isBox a := by
  unfold mf_areKnown
  rw [if_neg (by decide), if_neg (by decide), if_neg (by decide), if_neg (by decide), if_neg (by decide), if_neg (by decide), if_pos rfl]
theorem known_7 (a b : Int32) : mf_areKnown 7 a b = mf_isKind a := by
  unfold mf_areKnown
  rw [if_neg (by decide), if_neg (by decide), if_neg (by decide), if_neg (by decide), if_neg (by decide), if_neg (by decide), if_neg (by decide), if_pos rfl]
theorem known_8 (a b : Int32) : mf_areKnown 8 a b = if mf_isBox a = 0 then 0 else if mf_isBox b = 0 then 0 else 1 := by
  unfold mf_areKnown
  rw [if_neg (by decide), if_neg (by decide), if_neg (by decide), if_neg (by decide), if_neg (by decide), if_neg (by decide), if_neg (by decide), if_neg (by decide), if_pos rfl]
theorem known_10 (a b : Int32) : mf_areKnown 10 a b = mf_isBox a := by
  unfold mf_areKnown
  rw [if_neg (by decide), if_neg (by decide), if_neg (by decide), if_neg (by decide), if_neg (by decide), if_neg (by decide), if_neg (by decide), if_neg (by decide), if_neg (by decide), if_neg (by decide), if_pos rfl]
theorem known_11 (a b : Int32) : mf_areKnown 11 a b = mf_isBox a := by
  unfold mf_areKnown
  rw [if_neg (by decide), if_neg (by decide), if_neg (by decide), if_neg (by decide), if_neg (by decide), if_neg (by decide), if_neg (by decide), if_neg (by decide), if_neg (by decide), if_neg (by decide), if_neg (by decide), if_pos rfl]
theorem hOK_told {k so a b : Int32} {w : Int64} {r1 r2 : Option Nat} (h1 : ¬ so < 0) (h2 : so ≤ 11) (h3 : vp_in k 10) (h4 : ¬ mf_areKnown so a b = 0) (h5 : so = 5 → ¬ b < 0 ∧ b ≤ 100) : hOK (k, so, a, b, w, r1, r2, 0) := by
  refine ⟨?_, h3, ?_, ?_, ?_, ?_⟩
  · rw [Int32.lt_iff_toInt_lt] at h1
    rw [Int32.le_iff_toInt_le] at h2
    have e0 : (0 : Int32).toInt = 0 := by decide
    have e11 : (11 : Int32).toInt = 11 := by decide
    exact ⟨so.toInt.toNat, by omega, Int32.toInt_inj.mp (by rw [nI_toInt (by omega)]; show so.toInt = _; omega)⟩
  · intro q
    have q : so = 0 ∨ so = 6 ∨ so = 8 ∨ so = 10 ∨ so = 11 := q
    show vp_in a 6
    rcases q with rfl | rfl | rfl | rfl | rfl
    · rw [known_0] at h4; exact mbox_in h4
    · rw [known_6] at h4; exact mbox_in h4
    · rw [known_8] at h4
      by_cases c : mf_isBox a = 0
      · rw [if_pos c] at h4
        exact absurd rfl h4
      · exact mbox_in c
    · rw [known_10] at h4; exact mbox_in h4
    · rw [known_11] at h4; exact mbox_in h4
  · intro q
    have q : so = 1 ∨ so = 2 ∨ so = 3 ∨ so = 7 := q
    show vp_in a 10
    rcases q with rfl | rfl | rfl | rfl
    · rw [known_1] at h4; exact mkind_in h4
    · rw [known_2] at h4; exact mkind_in h4
    · rw [known_3] at h4; exact mkind_in h4
    · rw [known_7] at h4; exact mkind_in h4
  · intro q
    have q : so = 8 := q
    show vp_in b 6
    subst q
    rw [known_8] at h4
    by_cases c : mf_isBox a = 0
    · rw [if_pos c] at h4
      exact absurd rfl h4
    · rw [if_neg c] at h4
      by_cases c2 : mf_isBox b = 0
      · rw [if_pos c2] at h4
        exact absurd rfl h4
      · exact mbox_in c2
  · intro q
    obtain ⟨g1, g2⟩ := h5 q
    rw [Int32.lt_iff_toInt_lt] at g1
    rw [Int32.le_iff_toInt_le] at g2
    have e0 : (0 : Int32).toInt = 0 := by decide
    have e1 : (100 : Int32).toInt = 100 := by decide
    exact ⟨0, b.toInt.toNat, rfl, Int32.toInt_inj.mp (by rw [nI_toInt (by omega)]; show b.toInt = _; omega), Nat.zero_le _, by omega⟩
