theorem mf_stands_s (f : Nat) (i : Int32) (σ : SM) (h : ¬ 10 ≤ i) : mf_stands (f + 1) i σ = if 2 ≤ i then mf_stands f (i + 1) (ms_st σ (upd (m_st σ) i.toNatClampNeg (-1))) else mf_stands f (i + 1) (ms_st σ (upd (m_st σ) i.toNatClampNeg i)) := if_neg h
/-- the constructor's loop: what stands from i on -/
theorem stands_spec : ∀ (f j : Nat) (μ : SM), j ≤ 10 → 10 < j + f → ∃ S : Nat → Int32, mf_stands f (nI j) μ = ms_st μ S ∧ ∀ i, S i = if j ≤ i ∧ i < 10 then (if i < 2 then nI i else -1) else m_st μ i := by
  intro f
  induction f with
  | zero => intro j μ h1 h2; omega
  | succ f ih =>
    intro j μ h1 h2
    by_cases c : j = 10
    · subst c
      refine ⟨m_st μ, ?_, fun i => (if_neg (by omega)).symm⟩
      have e : mf_stands (f + 1) (nI 10) μ = μ := if_pos (by decide)
      rw [e]
      obtain ⟨a0, a1, a2, a3, a4, a5, a6, a7, a8, a9, b0, b1, b2, b3, b4, b5, b6, b7, b8, b9, c0, c1, c2, c3, c4, c5, c6, c7⟩ := μ
      simp only [ms_st, m_st]
    · have h10 : ¬ (10 : Int32) ≤ nI j := nI_ge (b := 10) (by omega) (by decide)
      rw [mf_stands_s f (nI j) μ h10, nI_clamp (by omega), nI_1]
      have key : ∀ x : Int32, ms_st (ms_st μ (upd (m_st μ) j x)) = ms_st μ := by
        intro x
        funext S
        simp only [ms_st]
      by_cases c2 : 2 ≤ j
      · have k1 : (2 : Int32) ≤ nI j := nI_le (a := 2) c2 (by omega)
        rw [if_pos k1]
        obtain ⟨S, g1, g2⟩ := ih (j + 1) (ms_st μ (upd (m_st μ) j (-1))) (by omega) (by omega)
        refine ⟨S, by rw [g1, key], fun i => ?_⟩
        rw [g2 i, mw_st]
        by_cases e : i = j
        · subst e
          rw [if_neg (show ¬ (i + 1 ≤ i ∧ i < 10) by omega), pk_us, if_pos (show i ≤ i ∧ i < 10 by omega), if_neg (show ¬ i < 2 by omega)]
        · rw [pk_un e]
          by_cases e2 : j + 1 ≤ i ∧ i < 10
          · rw [if_pos e2, if_pos (show j ≤ i ∧ i < 10 by omega)]
          · rw [if_neg e2, if_neg (show ¬ (j ≤ i ∧ i < 10) by omega)]
      · have k1 : ¬ (2 : Int32) ≤ nI j := nI_ge (b := 2) (by omega) (by decide)
        rw [if_neg k1]
        obtain ⟨S, g1, g2⟩ := ih (j + 1) (ms_st μ (upd (m_st μ) j (nI j))) (by omega) (by omega)
        refine ⟨S, by rw [g1, key], fun i => ?_⟩
        rw [g2 i, mw_st]
        by_cases e : i = j
        · subst e
          rw [if_neg (show ¬ (i + 1 ≤ i ∧ i < 10) by omega), pk_us, if_pos (show i ≤ i ∧ i < 10 by omega), if_pos (show i < 2 by omega)]
        · rw [pk_un e]
          by_cases e2 : j + 1 ≤ i ∧ i < 10
          · rw [if_pos e2, if_pos (show j ≤ i ∧ i < 10 by omega)]
          · rw [if_neg e2, if_neg (show ¬ (j ≤ i ∧ i < 10) by omega)]
