theorem sim_tkL (n : Int32) : ∀ (f : Nat) (dn : Int32) (B : Int) (F : Nat) (σ : SX) (μ : SM), Rel B F σ μ → (∃ a b, n = nI a ∧ dn = nI b ∧ a ≤ 6 ∧ b ≤ a ∧ a < b + f) → B + 32 * f ≤ 1000000000 → F + f ≤ 1000000 → ∃ RR, mTk n RR f dn μ ∧ RR.1 = (xf_takeL f n dn σ).1 ∧ Rel (B + 32 * f) (F + f) (xf_takeL f n dn σ).2 RR.2 := by
  intro f
  induction f with
  | zero =>
    intro dn B F σ μ h hn
    obtain ⟨a, b, -, -, -, h1, h2⟩ := hn
    exact absurd h2 (by omega)
  | succ f ih =>
    intro dn B F σ μ h hn hB hF
    have eL : xf_takeL (f + 1) n dn σ = if n ≤ dn then (dn, σ) else if x_qs σ ≤ 0 then (dn, σ) else xf_takeL f n (dn + 1) (xf_takeFirst σ) := rfl
    rw [eL]
    by_cases c1 : n ≤ dn
    · rw [if_pos c1]
      exact ⟨(dn, μ), ⟨fun _ => rfl, fun q => absurd c1 q, fun q => absurd c1 q⟩, rfl, h.up (by omega) (by omega)⟩
    · rw [if_neg c1]
      obtain ⟨-, -, -, -, ⟨f0, q, q1, q2, q3, q4, q5, q6⟩, -⟩ := Rel_c.mp h.1
      by_cases c2 : x_qs σ ≤ 0
      · have c3 : m_sz μ ≤ 0 := by rw [q4, ← q3]; exact c2
        rw [if_pos c2]
        exact ⟨(dn, μ), ⟨fun q => absurd q c1, fun _ _ => rfl, fun _ q => absurd c3 q⟩, rfl, h.up (by omega) (by omega)⟩
      · have c3 : ¬ m_sz μ ≤ 0 := by rw [q4, ← q3]; exact c2
        rw [if_neg c2]
        cases q with
        | zero => exact absurd (by rw [q3]; decide) c2
        | succ p =>
          have ey : m_sz μ - 1 = nI p := by rw [q4]; exact nI_pred p
          have ex : x_qs σ - 1 = nI p := by rw [q3]; exact nI_pred p
          have ez : (x_qf σ + 1) - (x_qf σ + 1) / 40 * 40 = nI ((f0 + 1) % 40) := by
            rw [q1, nI_1]
            exact pk_rem (d := 40) (by omega) (by decide) (by decide)
          have ef : (x_qf σ).toNatClampNeg = f0 := by rw [q1]; exact nI_clamp (by omega)
          have q60 := q6 0 (by omega)
          rw [show (f0 + 0) % 40 = f0 by omega] at q60
          obtain ⟨QK, QV, g1, g2, g3⟩ := shift_spec 40 0 p (ms_sz μ (m_sz μ - 1)) (by rw [mw_sz]; exact ey) (by omega) (Nat.zero_le _) (by omega)
          rw [mr_qk_sz] at g2
          rw [mr_qv_sz] at g3
          have g1 : mf_shift 40 0 (ms_sz μ (m_sz μ - 1)) = ms_qv (ms_qk (ms_sz μ (m_sz μ - 1)) QK) QV := g1
          have etk := h.2.1.2.2.2.1
          have hT := Rel_take1 h q1 q2 q3 q4 q5 q6 g2 g3 (x_tk σ + 1) rfl (by rw [etk]) ((x_qf σ + 1) - (x_qf σ + 1) / 40 * 40) ez (x_qs σ - 1) ex
          obtain ⟨τ, k1, k2, k3, k4⟩ := sim_go hT (by omega) q60.2.2 (m_qv μ 0)
          have eT : xf_takeFirst σ = if (xf_deliver (m_qk μ 0) (m_qv μ 0) (xs_tk (xs_qs (xs_qf σ ((x_qf σ + 1) - (x_qf σ + 1) / 40 * 40)) (x_qs σ - 1)) (x_tk σ + 1))).1 = 0 then (xf_deliver (m_qk μ 0) (m_qv μ 0) (xs_tk (xs_qs (xs_qf σ ((x_qf σ + 1) - (x_qf σ + 1) / 40 * 40)) (x_qs σ - 1)) (x_tk σ + 1))).2 else xf_noteFailed (m_qk μ 0) (m_qv μ 0) (xf_deliver (m_qk μ 0) (m_qv μ 0) (xs_tk (xs_qs (xs_qf σ ((x_qf σ + 1) - (x_qf σ + 1) / 40 * 40)) (x_qs σ - 1)) (x_tk σ + 1))).1 (xf_deliver (m_qk μ 0) (m_qv μ 0) (xs_tk (xs_qs (xs_qf σ ((x_qf σ + 1) - (x_qf σ + 1) / 40 * 40)) (x_qs σ - 1)) (x_tk σ + 1))).2 := by
            unfold xf_takeFirst
            rw [if_neg (show ¬ x_qf σ < 0 by rw [q1]; exact nI_pos (by omega)), if_pos (show x_qf σ < 40 by rw [q1]; exact nI_lt (b := 40) q2 (by decide)), ef, q60.1, q60.2.1]
          rw [eT]
          generalize xf_deliver (m_qk μ 0) (m_qv μ 0) (xs_tk (xs_qs (xs_qf σ ((x_qf σ + 1) - (x_qf σ + 1) / 40 * 40)) (x_qs σ - 1)) (x_tk σ + 1)) = G at k3 k4 ⊢
          have hff := Rel_fail k4 (by omega) (m_qk μ 0) (m_qv μ 0)
          rw [mr_fa_la, mr_kp_la] at hff
          have hN : ∃ ν σ2, (ν = if m_fa τ = 0 then ms_la τ (m_la τ + m_bg τ) else mf_falls (m_qk μ 0) (m_qv μ 0) (ms_la τ (m_la τ + m_bg τ))) ∧ (σ2 = if G.1 = 0 then G.2 else xf_noteFailed (m_qk μ 0) (m_qv μ 0) G.1 G.2) ∧ Rel (B + 32) (F + 1) σ2 ν := by
            refine ⟨_, _, rfl, rfl, ?_⟩
            rw [← k3]
            by_cases c4 : m_fa τ = 0
            · rw [if_pos c4, if_pos c4]
              exact k4.up (by omega) (by omega)
            · rw [if_neg c4, if_neg c4]
              exact hff.1
          obtain ⟨ν, σ2, e1, e2, hR⟩ := hN
          rw [← e2]
          obtain ⟨RR, r1, r2, r3⟩ := ih (dn + 1) (B + 32) (F + 1) σ2 ν hR (z_tkn hn c1) (by omega) (by omega)
          rw [e1] at r1
          refine ⟨RR, ⟨fun q => absurd q c1, fun _ q => absurd q c3, fun _ _ => ⟨⟨p, by omega, ey⟩, q60.2.2, τ, ?_, k2, hff.2, r1⟩⟩, r2, r3.up (by omega) (by omega)⟩
          rw [g1, mr_st_qv, mr_st_qk, mr_st_sz, mr_tk_qv, mr_tk_qk, mr_tk_sz]
          rw [mr_st_tk, mr_st_qv, mr_st_qk, mr_st_sz, ex, etk] at k1
          rw [ey]
          exact k1
theorem mInE16 {n : Int32} (h1 : ¬ n < 1) (h2 : n ≤ 6) : ¬ mf_in n 1 6 = 0 := by
  unfold mf_in
  rw [if_neg h1, if_neg (fun q => by
    rw [Int32.lt_iff_toInt_lt] at q
    rw [Int32.le_iff_toInt_le] at h2
    omega)]
  decide
theorem sim_take {B : Int} {F : Nat} {σ : SX} {μ : SM} (h : Rel B F σ μ) (hB : B + 224 ≤ 1000000000) (hF : F + 7 ≤ 1000000) (n : Int32) : ∃ RR, mTake n μ RR ∧ RR.1 = (xf_take n σ).1 ∧ Rel (B + 224) (F + 7) (xf_take n σ).2 RR.2 := by
  have fin : ∀ q : mf_in n 1 6 = 0, ∃ RR, mTake n μ RR ∧ RR.1 = ((-3 : Int32), σ).1 ∧ Rel (B + 224) (F + 7) ((-3 : Int32), σ).2 RR.2 := fun q => ⟨(-3, μ), ⟨fun _ => rfl, fun z => absurd q z⟩, rfl, h.up (by omega) (by omega)⟩
  unfold xf_take
  by_cases c1 : n < 1
  · rw [if_pos c1]
    exact fin (by unfold mf_in; rw [if_pos c1])
  · rw [if_neg c1]
    by_cases c2 : n ≤ 6
    · rw [if_pos c2]
      obtain ⟨RR, r1, r2, r3⟩ := sim_tkL n 7 0 B F (xs_bic σ 0) (ms_la μ 0) (Rel_la 0 h) (z_tk0 c1 c2) (by omega) hF
      exact ⟨RR, ⟨fun q => absurd q (mInE16 c1 c2), fun _ => r1⟩, r2, r3⟩
    · rw [if_neg c2]
      exact fin (by
        unfold mf_in
        rw [if_neg c1, if_pos (by
          rw [Int32.le_iff_toInt_le] at c2
          rw [Int32.lt_iff_toInt_lt]
          omega)])
