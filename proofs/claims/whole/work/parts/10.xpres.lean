def okr (n : Nat) (r : Option Nat) : Prop := ∀ j, r = some j → j < n
def xok (σ : SX) : Prop := (∀ k, okr (x_n σ) (x_hd σ k)) ∧ ∀ i, okr (x_n σ) (h_former (x_tab σ i)) ∧ okr (x_n σ) (h_other (x_tab σ i))
def xpres (σ τ : SX) : Prop := x_n τ = x_n σ ∧ (xok σ → xok τ)
theorem xpres.refl (σ : SX) : xpres σ σ := ⟨rfl, fun h => h⟩
theorem xpres.trans {a b c : SX} (h : xpres a b) (k : xpres b c) : xpres a c := ⟨k.1.trans h.1, fun z => k.2 (h.2 z)⟩
theorem xpres.of {σ τ : SX} (h1 : x_n τ = x_n σ) (h2 : x_hd τ = x_hd σ) (h3 : x_tab τ = x_tab σ) : xpres σ τ := by
  refine ⟨h1, fun h => ?_⟩
  unfold xok
  rw [h1, h2, h3]
  exact h
theorem xt_keep (b : Int32) (v : Int64) (σ : SX) : x_tab (xf_keep b v σ).2 = x_tab σ := by
  unfold xf_keep
  split <;> rfl
theorem xp_keep (b : Int32) (v : Int64) (σ : SX) : xpres σ (xf_keep b v σ).2 := by
  unfold xf_keep
  split
  · exact xpres.refl σ
  · exact xpres.of rfl rfl rfl
theorem xp_enqueue (b : Int32) (v : Int64) (σ : SX) : xpres σ (xf_enqueue b v σ).2 := by
  unfold xf_enqueue
  repeat' split
  all_goals first | exact xpres.refl σ | exact xpres.of rfl rfl rfl
theorem xok_begun {σ : SX} {j : Nat} {v : Int32} (h : xok σ) : xok (xs_tab σ (va_up (x_tab σ) j (hs_begun (x_tab σ j) v))) := by
  refine ⟨h.1, fun i => ?_⟩
  show okr (x_n σ) (h_former (va_up (x_tab σ) j (hs_begun (x_tab σ j) v) i)) ∧ okr (x_n σ) (h_other (va_up (x_tab σ) j (hs_begun (x_tab σ j) v) i))
  by_cases e : i = j
  · subst e
    rw [va_up_self]
    exact h.2 i
  · rw [va_up_ne _ _ e]
    exact h.2 i
theorem xokr_handlerOf {k : Int32} {σ : SX} (h : xok σ) : okr (x_n σ) (xf_handlerOf k σ) := by
  unfold xf_handlerOf
  split
  · intro j hj; cases hj
  · exact h.1 _
