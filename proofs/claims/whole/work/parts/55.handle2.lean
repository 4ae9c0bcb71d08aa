section SIMH
variable {B : Int} {F : Nat} {σ : SX} {μ : SM} {k so a b : Int32} {w : Int64}
theorem sim_HR (h : Rel B F σ μ) {r2 : Option Nat} {o : Int32} (hN : x_n σ < 202) (hk : vp_in k 10) (ho : o = enc r2) (h2 : okr (x_n σ) r2) (hr : hOK (k, so, a, b, w, x_hd σ k.toNatClampNeg, r2, 0)) : (xf_handleT k so a b w r2 σ).1 = (mHR k so a b w o μ).1 ∧ Rel B F (xf_handleT k so a b w r2 σ).2 (mHR k so a b w o μ).2 := by
  have hR := Rel_told h hN hk ho h2 hr
  obtain ⟨e1, e2⟩ := Rel_st h hk
  have e4 : (xf_handleT k so a b w r2 σ).1 = if x_hd σ k.toNatClampNeg = none then 0 else 1 := rfl
  unfold mHR
  rw [pk_us, e1, e4]
  by_cases c : x_hd σ k.toNatClampNeg = none
  · rw [if_pos c, if_pos (e2.mpr c)]
    exact ⟨rfl, hR⟩
  · rw [if_neg c, if_neg (fun q => c (e2.mp q))]
    exact ⟨rfl, hR⟩
theorem sim_TT (h : Rel B F σ μ) (hk : vp_in k 10) (h1 : ¬ so < 0) (h2 : so ≤ 11) (h4 : ¬ mf_areKnown so a b = 0) (h5 : so = 5 → ¬ b < 0 ∧ b ≤ 100) : (xTT k so a b w σ).1 = (mTT k so a b w μ).1 ∧ Rel B F (xTT k so a b w σ).2 (mTT k so a b w μ).2 := by
  have hn := (Rel_c.mp h.1).2.2.2.1
  obtain ⟨a1, a2, a3, -⟩ := h.2.1
  have hr : ∀ r2, hOK (k, so, a, b, w, x_hd σ k.toNatClampNeg, r2, 0) := fun r2 => hOK_told h1 h2 hk h4 h5
  unfold xTT mTT
  by_cases c : x_n σ = 202
  · have k1 : ¬ x_told σ < 200 := by rw [a3, c]; decide
    have k2 : m_many μ = 202 := by rw [a1, c]; rfl
    rw [if_neg k1, if_pos k2]
    exact ⟨rfl, h⟩
  · have hN : x_n σ < 202 := by omega
    have k1 : x_told σ < 200 := by rw [a3]; exact nI_lt (b := 200) (by omega) (by decide)
    have k2 : ¬ m_many μ = 202 := by
      rw [a1]
      exact fun e => absurd ((nI_eq (b := 202) (by omega) (by decide)).mp e) c
    rw [if_pos k1, if_neg k2]
    by_cases s2 : so = 2
    · rw [if_pos s2, if_pos s2]
      have ha := mak_in h4 (Or.inl s2)
      exact sim_HR h hN hk (by rw [xf_handlerOf_in σ ha]; exact (Rel_st h ha).1) (by rw [xf_handlerOf_in σ ha]; exact hn.2.1 _) (hr _)
    · rw [if_neg s2, if_neg s2]
      by_cases s7 : so = 7
      · rw [if_pos s7, if_pos s7]
        have ha := mak_in h4 (Or.inr s7)
        exact sim_HR h hN hk (by rw [xf_handlerOf_in σ ha]; exact (Rel_st h ha).1) (by rw [xf_handlerOf_in σ ha]; exact hn.2.1 _) (hr _)
      · rw [if_neg s7, if_neg s7]
        exact sim_HR h hN hk rfl okr_none (hr _)
theorem mIn_of {x lo hi : Int32} (h1 : ¬ x < lo) (h2 : x ≤ hi) : ¬ mf_in x lo hi = 0 := by
  unfold mf_in
  rw [if_neg h1, if_neg (fun q => by
    rw [Int32.lt_iff_toInt_lt] at q
    rw [Int32.le_iff_toInt_le] at h2
    omega)]
  decide
theorem mIn_lt {x lo hi : Int32} (h1 : x < lo) : mf_in x lo hi = 0 := by
  unfold mf_in
  rw [if_pos h1]
theorem mIn_gt {x lo hi : Int32} (h1 : ¬ x < lo) (h2 : ¬ x ≤ hi) : mf_in x lo hi = 0 := by
  unfold mf_in
  rw [if_neg h1, if_pos (by
    rw [Int32.le_iff_toInt_le] at h2
    rw [Int32.lt_iff_toInt_lt]
    omega)]
theorem sim_handle (h : Rel B F σ μ) (k so a b : Int32) (w : Int64) : (xf_handle k so a b w σ).1 = (mf_handle k so a b w μ).1 ∧ Rel B F (xf_handle k so a b w σ).2 (mf_handle k so a b w μ).2 := by
  rw [xf_handleE, mf_handleE]
  by_cases c1 : so < 0
  · rw [if_pos c1, if_pos (mIn_lt c1)]
    exact ⟨rfl, h⟩
  · rw [if_neg c1]
    by_cases c2 : so ≤ 11
    · rw [if_pos c2, if_neg (mIn_of c1 c2)]
      rcases kindE k with ⟨k1, k2⟩ | ⟨k1, k2, k3⟩
      · rw [if_pos k1, if_pos k2]
        exact ⟨rfl, h⟩
      · rw [if_neg k1, if_neg k2, knownV]
        by_cases c3 : mf_areKnown so a b = 0
        · rw [if_pos c3, if_pos c3]
          exact ⟨rfl, h⟩
        · rw [if_neg c3, if_neg c3]
          by_cases c4 : so = 5
          · rw [if_pos c4, if_pos c4]
            by_cases c5 : b < 0
            · rw [if_pos c5, if_pos (mIn_lt c5)]
              exact ⟨rfl, h⟩
            · rw [if_neg c5]
              by_cases c6 : b ≤ 100
              · rw [if_pos c6, if_neg (mIn_of c5 c6)]
                exact sim_TT h k3 c1 c2 c3 (fun _ => ⟨c5, c6⟩)
              · rw [if_neg c6, if_pos (mIn_gt c5 c6)]
                exact ⟨rfl, h⟩
          · rw [if_neg c4, if_neg c4]
            exact sim_TT h k3 c1 c2 c3 (fun q => absurd q c4)
    · rw [if_neg c2, if_pos (mIn_gt c1 c2)]
      exact ⟨rfl, h⟩
end SIMH
