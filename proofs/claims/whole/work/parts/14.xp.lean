noncomputable def xf_begin : Nat → Option Nat → Int64 → Int32 → SX → Int32 × SX
  | 0 => fun _ _ _ σ => (6, σ)
  | d + 1 => xf_beginB (fun j v dp σ => xf_act (xf_begin d) j v dp σ)
theorem xpi {c : Prop} [Decidable c] {σ : SX} {a b : Int32 × SX} (ha : c → xpres σ a.2) (hb : ¬ c → xpres σ b.2) : xpres σ (if c then a else b).2 := by
  by_cases h : c
  · rw [if_pos h]
    exact ha h
  · rw [if_neg h]
    exact hb h
theorem xp_share (j : Nat) (v : Int64) (σ : SX) : xpres σ (xf_share j v σ).2 := by
  unfold xf_share
  exact xpi (fun _ => xpres.refl σ) (fun _ => xpi (fun _ => (xp_keep _ _ _).trans (xp_keep _ _ _)) (fun _ => xp_keep _ _ _))
theorem xp_keepAndSend (j : Nat) (v : Int64) (σ : SX) : xpres σ (xf_keepAndSend j v σ).2 := by
  unfold xf_keepAndSend
  exact xpi (fun _ => xpi (fun _ => xp_keep _ _ _) (fun _ => (xp_keep _ _ _).trans (xp_enqueue _ _ _))) (fun _ => xp_keep _ _ _)
theorem xok_hd {σ : SX} {i : Nat} {r : Option Nat} (h : xok σ) (hr : okr (x_n σ) r) : xok (xs_hd σ (va_up (x_hd σ) i r)) := by
  refine ⟨fun k => ?_, h.2⟩
  show okr (x_n σ) (va_up (x_hd σ) i r k)
  by_cases e : k = i
  · subst e
    rw [va_up_self]
    exact hr
  · rw [va_up_ne _ _ e]
    exact h.1 k
theorem xp_once (j : Nat) (v : Int64) (σ : SX) : xpres σ (xf_once j v σ).2 := by
  unfold xf_once
  exact xpi (fun _ => xpi (fun _ => xp_keep _ _ _) (fun _ => (xp_keep _ _ _).trans ⟨rfl, fun h => xok_hd h (h.2 _).1⟩)) (fun _ => xp_keep _ _ _)
section XPB
variable {bg : Option Nat → Int64 → Int32 → SX → Int32 × SX}
theorem xp_sift (Hbp : xBP bg) (j : Nat) (v : Int64) (dp : Int32) (σ : SX) (hok : xok σ) : xpres σ (xf_sift bg j v dp σ).2 := by
  unfold xf_sift
  exact xpi (fun _ => xpres.refl σ) (fun _ => xpi (fun _ => Hbp _ _ _ _ hok (hok.2 _).1) (fun _ => xpres.refl σ))
theorem xp_limit (Hbp : xBP bg) (j : Nat) (v : Int64) (dp : Int32) (σ : SX) (hok : xok σ) : xpres σ (xf_limit bg j v dp σ).2 := by
  have h1 : xpres σ (xs_tab σ (va_up (x_tab σ) j (hs_begun (x_tab σ j) (h_begun (x_tab σ j) + 1)))) := ⟨rfl, fun h => xok_begun h⟩
  have h2 : okr (x_n σ) (h_former (va_up (x_tab σ) j (hs_begun (x_tab σ j) (h_begun (x_tab σ j) + 1)) j)) := by
    rw [va_up_self]
    exact (hok.2 j).1
  unfold xf_limit
  exact xpi (fun _ => h1.trans (Hbp _ _ _ _ (h1.2 hok) (by rw [h1.1]; exact h2))) (fun _ => xpres.refl σ)
theorem xp_both (Hbp : xBP bg) (j : Nat) (v : Int64) (dp : Int32) (σ : SX) (hok : xok σ) : xpres σ (xf_both bg j v dp σ).2 := by
  have h1 := Hbp (h_former (x_tab σ j)) v (dp + 1) σ hok (hok.2 j).1
  unfold xf_both
  exact xpi (fun _ => h1.trans (Hbp _ _ _ _ (h1.2 hok) ((h1.2 hok).2 j).2)) (fun _ => h1)
theorem xp_keepFailure (Hbp : xBP bg) (j : Nat) (v : Int64) (dp : Int32) (σ : SX) (hok : xok σ) : xpres σ (xf_keepFailure bg j v dp σ).2 := by
  have h1 := Hbp (h_former (x_tab σ j)) v (dp + 1) σ hok (hok.2 j).1
  unfold xf_keepFailure
  exact xpi (fun _ => h1) (fun _ => xpi (fun _ => h1) (fun _ => h1.trans (xp_keep _ _ _)))
theorem xp_mean (Hbp : xBP bg) (j : Nat) (v : Int64) (dp : Int32) (σ : SX) (hok : xok σ) : xpres σ (xf_mean bg j v dp σ).2 := by
  have h1 := xp_keep (h_a (x_tab σ j)) v σ
  unfold xf_mean
  exact xpi (fun _ => xpi (fun _ => h1) (fun _ => xpi (fun _ => h1) (fun _ => xpi (fun _ => h1) (fun _ => h1.trans (Hbp _ _ _ _ (h1.2 hok) ((h1.2 hok).2 j).1))))) (fun _ => h1)
theorem xp_act (Hbp : xBP bg) (j : Nat) (v : Int64) (dp : Int32) (σ : SX) (hok : xok σ) : xpres σ (xf_act bg j v dp σ).2 := by
  unfold xf_act
  exact xpi (fun _ => xp_keep _ _ _) (fun _ => xpi (fun _ => xp_enqueue _ _ _) (fun _ => xpi (fun _ => Hbp _ _ _ _ hok (hok.2 _).2) (fun _ => xpi (fun _ => Hbp _ _ _ _ hok (xokr_handlerOf hok)) (fun _ => xpi (fun _ => xp_sift Hbp _ _ _ _ hok) (fun _ => xpi (fun _ => xp_limit Hbp _ _ _ _ hok) (fun _ => xpi (fun _ => xp_once _ _ _) (fun _ => xpi (fun _ => xp_both Hbp _ _ _ _ hok) (fun _ => xpi (fun _ => xp_share _ _ _) (fun _ => xpi (fun _ => xp_keep _ _ _) (fun _ => xpi (fun _ => xp_keepFailure Hbp _ _ _ _ hok) (fun _ => xpi (fun _ => xp_mean Hbp _ _ _ _ hok) (fun _ => xp_keepAndSend _ _ _))))))))))))
theorem xp_beginB {ac : Nat → Int64 → Int32 → SX → Int32 × SX} (Hap : ∀ (j : Nat) (v : Int64) (dp : Int32) (σ : SX), xok σ → xpres σ (ac j v dp σ).2) (r : Option Nat) (v : Int64) (dp : Int32) (σ : SX) (hok : xok σ) : xpres σ (xf_beginB ac r v dp σ).2 := by
  have h1 : ∀ x : Int32, xpres σ (xs_bl σ x) := fun x => xpres.of rfl rfl rfl
  unfold xf_beginB
  exact xpi (fun _ => xpres.refl σ) (fun _ => xpi (fun _ => xpi (fun _ => h1 _) (fun _ => (h1 _).trans (Hap _ _ _ _ ((h1 _).2 hok)))) (fun _ => xpres.refl σ))
end XPB
theorem xp_begin : ∀ d : Nat, xBP (xf_begin d) := by
  intro d
  induction d with
  | zero => intro r v dp σ _ _; exact xpres.refl σ
  | succ d ih => intro r v dp σ hok _; exact xp_beginB (fun j v dp σ hok => xp_act ih j v dp σ hok) r v dp σ hok
theorem cx_begin (l : Launch) (D : va_G) (O : Nat → Nat) (K : Nat → ClassId) (ad : Nat → Nat) : ∀ d : Nat, xBG l D O K ad (xf_begin d) d := by
  intro d
  induction d with
  | zero => intro r v dp σ hok hokr hd; exact cx_begin0 l D O K ad r v dp σ hd
  | succ d ih => intro r v dp σ hok hokr hd; exact cx_beginB l D O K ad _ d (fun j v dp σ hok hj hd => cx_act l D O K ad (xf_begin d) d ih (xp_begin d) j v dp σ hok hj hd) r v dp σ hok hokr hd
