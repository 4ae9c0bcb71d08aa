/-! THE RELATION of a class's state and a reference's -/
def enc (r : Option Nat) : Int32 := match r with
  | none => -1
  | some j => nI j
theorem enc_ge {r : Option Nat} {n : Nat} (h : okr n r) (hn : n ≤ 202) : 0 ≤ enc r ↔ ¬ r = none := by
  cases r with
  | none => exact ⟨fun h => absurd h (by decide), fun h => absurd rfl h⟩
  | some j =>
    have hj := h j rfl
    exact ⟨fun _ e => (by cases e), fun _ => nI_pos' (by omega)⟩
def hOK (h : HR) : Prop :=
  (∃ s : Nat, s ≤ 11 ∧ h_sort h = nI s) ∧ vp_in (h_kind h) 10 ∧ ((h_sort h = 0 ∨ h_sort h = 6 ∨ h_sort h = 8 ∨ h_sort h = 10 ∨ h_sort h = 11) → vp_in (h_a h) 6) ∧ ((h_sort h = 1 ∨ h_sort h = 2 ∨ h_sort h = 3 ∨ h_sort h = 7) → vp_in (h_a h) 10) ∧ (h_sort h = 8 → vp_in (h_b h) 6) ∧ (h_sort h = 5 → ∃ x y : Nat, h_begun h = nI x ∧ h_b h = nI y ∧ x ≤ y ∧ y ≤ 100)
def tRel (h : HR) (i : Nat) (so as ki bs : Nat → Int32) (cs : Nat → Int64) (fo ot le : Nat → Int32) : Prop :=
  so i = h_sort h ∧ as i = h_a h ∧ ((h_sort h = 0 ∧ vp_in (h_a h) 6 ∧ i < 2) ∨ (h_sort h = 12 ∧ h_a h = 1 ∧ h_b h = 0 ∧ h_c h = -1 ∧ i < 2) ∨ (2 ≤ i ∧ ki i = h_kind h ∧ bs i = h_b h ∧ cs i = h_c h ∧ fo i = enc (h_former h) ∧ ot i = enc (h_other h) ∧ le i = h_begun h ∧ hOK h))
def rQ (qf qs : Int32) (xk : Nat → Int32) (xv : Nat → Int64) (sz : Int32) (mk : Nat → Int32) (mv : Nat → Int64) : Prop :=
  ∃ f q : Nat, qf = nI f ∧ f < 40 ∧ qs = nI q ∧ sz = nI q ∧ q ≤ 40 ∧ ∀ i, i < q → xk ((f + i) % 40) = mk i ∧ xv ((f + i) % 40) = mv i ∧ vp_in (mk i) 10
def rB (B : Int) (b : Nat) (xs : Nat → Int64) (xc : Nat → Int32) (su : Nat → Int64) (co : Nat → Int32) : Prop :=
  ∀ i, i < 6 → xs i = su i ∧ xc i = co i ∧ ∃ c : Nat, co i = nI c ∧ (c : Int) ≤ B + 2 * b
def RInC (B : Int) (t b : Nat) (bs' : Nat → Int64) (bc' : Nat → Int32) (hd' : Nat → Option Nat) (tab' : Nat → HR) (n' : Nat) (qf' : Int32) (qs' : Int32) (qk' : Nat → Int32) (qv' : Nat → Int64) (bl' : Int32) (su : Nat → Int64) (co : Nat → Int32) (st : Nat → Int32) (so : Nat → Int32) (as : Nat → Int32) (ki : Nat → Int32) (bs : Nat → Int32) (cs : Nat → Int64) (fo : Nat → Int32) (ot : Nat → Int32) (le : Nat → Int32) (sz : Int32) (qk : Nat → Int32) (qv : Nat → Int64) (bg : Int32) (tp : Int32) : Prop :=
  rB B b bs' bc' su co ∧ (∀ k, k < 10 → st k = enc (hd' k)) ∧ (∀ i, i < n' → tRel (tab' i) i so as ki bs cs fo ot le) ∧ (n' ≤ 202 ∧ (∀ k, okr n' (hd' k)) ∧ ∀ i, okr n' (h_former (tab' i)) ∧ okr n' (h_other (tab' i))) ∧ rQ qf' qs' qk' qv' sz qk qv ∧ (bl' = nI b ∧ bg = nI b ∧ b ≤ 16) ∧ (tp = nI t ∧ t ≤ 8)
def RIn (B : Int) (t b : Nat) (σ : SX) (μ : SM) : Prop := RInC B t b (x_bs σ) (x_bc σ) (x_hd σ) (x_tab σ) (x_n σ) (x_qf σ) (x_qs σ) (x_qk σ) (x_qv σ) (x_bl σ) (m_su μ) (m_co μ) (m_st μ) (m_so μ) (m_as μ) (m_ki μ) (m_bs μ) (m_cs μ) (m_fo μ) (m_ot μ) (m_le μ) (m_sz μ) (m_qk μ) (m_qv μ) (m_bg μ) (m_tp μ)
noncomputable def fx (σ : SX) := (x_told σ, x_tk σ, x_fk σ, x_fn σ, x_fv σ, x_fl σ, x_bic σ, x_n σ)
noncomputable def fm (μ : SM) := (m_many μ, m_tk μ, m_fe μ, m_kp μ, m_kk μ, m_kf μ, m_kv μ, m_la μ, m_so μ, m_as μ, m_ki μ, m_bs μ, m_cs μ, m_fo μ, m_ot μ)
def Fr (t : Nat) (μ ν : SM) : Prop := ∀ i, i < t → m_wh ν i = m_wh μ i ∧ m_sg ν i = m_sg μ i ∧ m_va ν i = m_va μ i
theorem Fr.refl (t : Nat) (μ : SM) : Fr t μ μ := fun _ _ => ⟨rfl, rfl, rfl⟩
theorem Fr.trans {t : Nat} {a b c : SM} (h : Fr t a b) (k : Fr t b c) : Fr t a c := fun i hi => ⟨(k i hi).1.trans (h i hi).1, (k i hi).2.1.trans (h i hi).2.1, (k i hi).2.2.trans (h i hi).2.2⟩
theorem Fr.mono {t u : Nat} {a b : SM} (h : Fr t a b) (hu : u ≤ t) : Fr u a b := fun i hi => h i (by omega)
theorem fm_su (μ : SM) (v : Nat → Int64) : fm (ms_su μ v) = fm μ := by
  unfold fm
  rw [mr_many_su, mr_tk_su, mr_fe_su, mr_kp_su, mr_kk_su, mr_kf_su, mr_kv_su, mr_la_su, mr_so_su, mr_as_su, mr_ki_su, mr_bs_su, mr_cs_su, mr_fo_su, mr_ot_su]
theorem Fr_su {t : Nat} {μ ν : SM} (v : Nat → Int64) (h : Fr t μ ν) : Fr t μ (ms_su ν v) := by
  unfold Fr
  rw [mr_wh_su, mr_sg_su, mr_va_su]
  exact h
theorem fm_co (μ : SM) (v : Nat → Int32) : fm (ms_co μ v) = fm μ := by
  unfold fm
  rw [mr_many_co, mr_tk_co, mr_fe_co, mr_kp_co, mr_kk_co, mr_kf_co, mr_kv_co, mr_la_co, mr_so_co, mr_as_co, mr_ki_co, mr_bs_co, mr_cs_co, mr_fo_co, mr_ot_co]
theorem Fr_co {t : Nat} {μ ν : SM} (v : Nat → Int32) (h : Fr t μ ν) : Fr t μ (ms_co ν v) := by
  unfold Fr
  rw [mr_wh_co, mr_sg_co, mr_va_co]
  exact h
theorem RIn_many {B : Int} {t b : Nat} {σ : SX} {μ : SM} (v : Int32) (h : RIn B t b σ μ) : RIn B t b σ (ms_many μ v) := by
  unfold RIn
  rw [mr_su_many, mr_co_many, mr_st_many, mr_so_many, mr_as_many, mr_ki_many, mr_bs_many, mr_cs_many, mr_fo_many, mr_ot_many, mr_le_many, mr_sz_many, mr_qk_many, mr_qv_many, mr_bg_many, mr_tp_many]
  exact h
theorem Fr_many {t : Nat} {μ ν : SM} (v : Int32) (h : Fr t μ ν) : Fr t μ (ms_many ν v) := by
  unfold Fr
  rw [mr_wh_many, mr_sg_many, mr_va_many]
  exact h
theorem Fr_so {t : Nat} {μ ν : SM} (v : Nat → Int32) (h : Fr t μ ν) : Fr t μ (ms_so ν v) := by
  unfold Fr
  rw [mr_wh_so, mr_sg_so, mr_va_so]
  exact h
theorem Fr_ki {t : Nat} {μ ν : SM} (v : Nat → Int32) (h : Fr t μ ν) : Fr t μ (ms_ki ν v) := by
  unfold Fr
  rw [mr_wh_ki, mr_sg_ki, mr_va_ki]
  exact h
theorem Fr_as {t : Nat} {μ ν : SM} (v : Nat → Int32) (h : Fr t μ ν) : Fr t μ (ms_as ν v) := by
  unfold Fr
  rw [mr_wh_as, mr_sg_as, mr_va_as]
  exact h
theorem Fr_bs {t : Nat} {μ ν : SM} (v : Nat → Int32) (h : Fr t μ ν) : Fr t μ (ms_bs ν v) := by
  unfold Fr
  rw [mr_wh_bs, mr_sg_bs, mr_va_bs]
  exact h
theorem Fr_cs {t : Nat} {μ ν : SM} (v : Nat → Int64) (h : Fr t μ ν) : Fr t μ (ms_cs ν v) := by
  unfold Fr
  rw [mr_wh_cs, mr_sg_cs, mr_va_cs]
  exact h
theorem Fr_fo {t : Nat} {μ ν : SM} (v : Nat → Int32) (h : Fr t μ ν) : Fr t μ (ms_fo ν v) := by
  unfold Fr
  rw [mr_wh_fo, mr_sg_fo, mr_va_fo]
  exact h
theorem Fr_ot {t : Nat} {μ ν : SM} (v : Nat → Int32) (h : Fr t μ ν) : Fr t μ (ms_ot ν v) := by
  unfold Fr
  rw [mr_wh_ot, mr_sg_ot, mr_va_ot]
  exact h
theorem fm_le (μ : SM) (v : Nat → Int32) : fm (ms_le μ v) = fm μ := by
  unfold fm
  rw [mr_many_le, mr_tk_le, mr_fe_le, mr_kp_le, mr_kk_le, mr_kf_le, mr_kv_le, mr_la_le, mr_so_le, mr_as_le, mr_ki_le, mr_bs_le, mr_cs_le, mr_fo_le, mr_ot_le]
theorem Fr_le {t : Nat} {μ ν : SM} (v : Nat → Int32) (h : Fr t μ ν) : Fr t μ (ms_le ν v) := by
  unfold Fr
  rw [mr_wh_le, mr_sg_le, mr_va_le]
  exact h
theorem fm_st (μ : SM) (v : Nat → Int32) : fm (ms_st μ v) = fm μ := by
  unfold fm
  rw [mr_many_st, mr_tk_st, mr_fe_st, mr_kp_st, mr_kk_st, mr_kf_st, mr_kv_st, mr_la_st, mr_so_st, mr_as_st, mr_ki_st, mr_bs_st, mr_cs_st, mr_fo_st, mr_ot_st]
theorem Fr_st {t : Nat} {μ ν : SM} (v : Nat → Int32) (h : Fr t μ ν) : Fr t μ (ms_st ν v) := by
  unfold Fr
  rw [mr_wh_st, mr_sg_st, mr_va_st]
  exact h
theorem fm_sz (μ : SM) (v : Int32) : fm (ms_sz μ v) = fm μ := by
  unfold fm
  rw [mr_many_sz, mr_tk_sz, mr_fe_sz, mr_kp_sz, mr_kk_sz, mr_kf_sz, mr_kv_sz, mr_la_sz, mr_so_sz, mr_as_sz, mr_ki_sz, mr_bs_sz, mr_cs_sz, mr_fo_sz, mr_ot_sz]
theorem Fr_sz {t : Nat} {μ ν : SM} (v : Int32) (h : Fr t μ ν) : Fr t μ (ms_sz ν v) := by
  unfold Fr
  rw [mr_wh_sz, mr_sg_sz, mr_va_sz]
  exact h
theorem fm_qk (μ : SM) (v : Nat → Int32) : fm (ms_qk μ v) = fm μ := by
  unfold fm
  rw [mr_many_qk, mr_tk_qk, mr_fe_qk, mr_kp_qk, mr_kk_qk, mr_kf_qk, mr_kv_qk, mr_la_qk, mr_so_qk, mr_as_qk, mr_ki_qk, mr_bs_qk, mr_cs_qk, mr_fo_qk, mr_ot_qk]
theorem Fr_qk {t : Nat} {μ ν : SM} (v : Nat → Int32) (h : Fr t μ ν) : Fr t μ (ms_qk ν v) := by
  unfold Fr
  rw [mr_wh_qk, mr_sg_qk, mr_va_qk]
  exact h
theorem fm_qv (μ : SM) (v : Nat → Int64) : fm (ms_qv μ v) = fm μ := by
  unfold fm
  rw [mr_many_qv, mr_tk_qv, mr_fe_qv, mr_kp_qv, mr_kk_qv, mr_kf_qv, mr_kv_qv, mr_la_qv, mr_so_qv, mr_as_qv, mr_ki_qv, mr_bs_qv, mr_cs_qv, mr_fo_qv, mr_ot_qv]
theorem Fr_qv {t : Nat} {μ ν : SM} (v : Nat → Int64) (h : Fr t μ ν) : Fr t μ (ms_qv ν v) := by
  unfold Fr
  rw [mr_wh_qv, mr_sg_qv, mr_va_qv]
  exact h
theorem RIn_tk {B : Int} {t b : Nat} {σ : SX} {μ : SM} (v : Int32) (h : RIn B t b σ μ) : RIn B t b σ (ms_tk μ v) := by
  unfold RIn
  rw [mr_su_tk, mr_co_tk, mr_st_tk, mr_so_tk, mr_as_tk, mr_ki_tk, mr_bs_tk, mr_cs_tk, mr_fo_tk, mr_ot_tk, mr_le_tk, mr_sz_tk, mr_qk_tk, mr_qv_tk, mr_bg_tk, mr_tp_tk]
  exact h
theorem Fr_tk {t : Nat} {μ ν : SM} (v : Int32) (h : Fr t μ ν) : Fr t μ (ms_tk ν v) := by
  unfold Fr
  rw [mr_wh_tk, mr_sg_tk, mr_va_tk]
  exact h
theorem RIn_fe {B : Int} {t b : Nat} {σ : SX} {μ : SM} (v : Int32) (h : RIn B t b σ μ) : RIn B t b σ (ms_fe μ v) := by
  unfold RIn
  rw [mr_su_fe, mr_co_fe, mr_st_fe, mr_so_fe, mr_as_fe, mr_ki_fe, mr_bs_fe, mr_cs_fe, mr_fo_fe, mr_ot_fe, mr_le_fe, mr_sz_fe, mr_qk_fe, mr_qv_fe, mr_bg_fe, mr_tp_fe]
  exact h
theorem Fr_fe {t : Nat} {μ ν : SM} (v : Int32) (h : Fr t μ ν) : Fr t μ (ms_fe ν v) := by
  unfold Fr
  rw [mr_wh_fe, mr_sg_fe, mr_va_fe]
  exact h
theorem RIn_kp {B : Int} {t b : Nat} {σ : SX} {μ : SM} (v : Int32) (h : RIn B t b σ μ) : RIn B t b σ (ms_kp μ v) := by
  unfold RIn
  rw [mr_su_kp, mr_co_kp, mr_st_kp, mr_so_kp, mr_as_kp, mr_ki_kp, mr_bs_kp, mr_cs_kp, mr_fo_kp, mr_ot_kp, mr_le_kp, mr_sz_kp, mr_qk_kp, mr_qv_kp, mr_bg_kp, mr_tp_kp]
  exact h
theorem Fr_kp {t : Nat} {μ ν : SM} (v : Int32) (h : Fr t μ ν) : Fr t μ (ms_kp ν v) := by
  unfold Fr
  rw [mr_wh_kp, mr_sg_kp, mr_va_kp]
  exact h
theorem RIn_kk {B : Int} {t b : Nat} {σ : SX} {μ : SM} (v : Nat → Int32) (h : RIn B t b σ μ) : RIn B t b σ (ms_kk μ v) := by
  unfold RIn
  rw [mr_su_kk, mr_co_kk, mr_st_kk, mr_so_kk, mr_as_kk, mr_ki_kk, mr_bs_kk, mr_cs_kk, mr_fo_kk, mr_ot_kk, mr_le_kk, mr_sz_kk, mr_qk_kk, mr_qv_kk, mr_bg_kk, mr_tp_kk]
  exact h
theorem Fr_kk {t : Nat} {μ ν : SM} (v : Nat → Int32) (h : Fr t μ ν) : Fr t μ (ms_kk ν v) := by
  unfold Fr
  rw [mr_wh_kk, mr_sg_kk, mr_va_kk]
  exact h
theorem RIn_kf {B : Int} {t b : Nat} {σ : SX} {μ : SM} (v : Nat → Int32) (h : RIn B t b σ μ) : RIn B t b σ (ms_kf μ v) := by
  unfold RIn
  rw [mr_su_kf, mr_co_kf, mr_st_kf, mr_so_kf, mr_as_kf, mr_ki_kf, mr_bs_kf, mr_cs_kf, mr_fo_kf, mr_ot_kf, mr_le_kf, mr_sz_kf, mr_qk_kf, mr_qv_kf, mr_bg_kf, mr_tp_kf]
  exact h
theorem Fr_kf {t : Nat} {μ ν : SM} (v : Nat → Int32) (h : Fr t μ ν) : Fr t μ (ms_kf ν v) := by
  unfold Fr
  rw [mr_wh_kf, mr_sg_kf, mr_va_kf]
  exact h
theorem RIn_kv {B : Int} {t b : Nat} {σ : SX} {μ : SM} (v : Nat → Int64) (h : RIn B t b σ μ) : RIn B t b σ (ms_kv μ v) := by
  unfold RIn
  rw [mr_su_kv, mr_co_kv, mr_st_kv, mr_so_kv, mr_as_kv, mr_ki_kv, mr_bs_kv, mr_cs_kv, mr_fo_kv, mr_ot_kv, mr_le_kv, mr_sz_kv, mr_qk_kv, mr_qv_kv, mr_bg_kv, mr_tp_kv]
  exact h
theorem Fr_kv {t : Nat} {μ ν : SM} (v : Nat → Int64) (h : Fr t μ ν) : Fr t μ (ms_kv ν v) := by
  unfold Fr
  rw [mr_wh_kv, mr_sg_kv, mr_va_kv]
  exact h
theorem RIn_la {B : Int} {t b : Nat} {σ : SX} {μ : SM} (v : Int32) (h : RIn B t b σ μ) : RIn B t b σ (ms_la μ v) := by
  unfold RIn
  rw [mr_su_la, mr_co_la, mr_st_la, mr_so_la, mr_as_la, mr_ki_la, mr_bs_la, mr_cs_la, mr_fo_la, mr_ot_la, mr_le_la, mr_sz_la, mr_qk_la, mr_qv_la, mr_bg_la, mr_tp_la]
  exact h
theorem Fr_la {t : Nat} {μ ν : SM} (v : Int32) (h : Fr t μ ν) : Fr t μ (ms_la ν v) := by
  unfold Fr
  rw [mr_wh_la, mr_sg_la, mr_va_la]
  exact h
theorem fm_tp (μ : SM) (v : Int32) : fm (ms_tp μ v) = fm μ := by
  unfold fm
  rw [mr_many_tp, mr_tk_tp, mr_fe_tp, mr_kp_tp, mr_kk_tp, mr_kf_tp, mr_kv_tp, mr_la_tp, mr_so_tp, mr_as_tp, mr_ki_tp, mr_bs_tp, mr_cs_tp, mr_fo_tp, mr_ot_tp]
theorem Fr_tp {t : Nat} {μ ν : SM} (v : Int32) (h : Fr t μ ν) : Fr t μ (ms_tp ν v) := by
  unfold Fr
  rw [mr_wh_tp, mr_sg_tp, mr_va_tp]
  exact h
theorem fm_bg (μ : SM) (v : Int32) : fm (ms_bg μ v) = fm μ := by
  unfold fm
  rw [mr_many_bg, mr_tk_bg, mr_fe_bg, mr_kp_bg, mr_kk_bg, mr_kf_bg, mr_kv_bg, mr_la_bg, mr_so_bg, mr_as_bg, mr_ki_bg, mr_bs_bg, mr_cs_bg, mr_fo_bg, mr_ot_bg]
theorem Fr_bg {t : Nat} {μ ν : SM} (v : Int32) (h : Fr t μ ν) : Fr t μ (ms_bg ν v) := by
  unfold Fr
  rw [mr_wh_bg, mr_sg_bg, mr_va_bg]
  exact h
theorem fm_wh (μ : SM) (v : Nat → Int32) : fm (ms_wh μ v) = fm μ := by
  unfold fm
  rw [mr_many_wh, mr_tk_wh, mr_fe_wh, mr_kp_wh, mr_kk_wh, mr_kf_wh, mr_kv_wh, mr_la_wh, mr_so_wh, mr_as_wh, mr_ki_wh, mr_bs_wh, mr_cs_wh, mr_fo_wh, mr_ot_wh]
theorem RIn_wh {B : Int} {t b : Nat} {σ : SX} {μ : SM} (v : Nat → Int32) (h : RIn B t b σ μ) : RIn B t b σ (ms_wh μ v) := by
  unfold RIn
  rw [mr_su_wh, mr_co_wh, mr_st_wh, mr_so_wh, mr_as_wh, mr_ki_wh, mr_bs_wh, mr_cs_wh, mr_fo_wh, mr_ot_wh, mr_le_wh, mr_sz_wh, mr_qk_wh, mr_qv_wh, mr_bg_wh, mr_tp_wh]
  exact h
theorem fm_sg (μ : SM) (v : Nat → Int32) : fm (ms_sg μ v) = fm μ := by
  unfold fm
  rw [mr_many_sg, mr_tk_sg, mr_fe_sg, mr_kp_sg, mr_kk_sg, mr_kf_sg, mr_kv_sg, mr_la_sg, mr_so_sg, mr_as_sg, mr_ki_sg, mr_bs_sg, mr_cs_sg, mr_fo_sg, mr_ot_sg]
theorem RIn_sg {B : Int} {t b : Nat} {σ : SX} {μ : SM} (v : Nat → Int32) (h : RIn B t b σ μ) : RIn B t b σ (ms_sg μ v) := by
  unfold RIn
  rw [mr_su_sg, mr_co_sg, mr_st_sg, mr_so_sg, mr_as_sg, mr_ki_sg, mr_bs_sg, mr_cs_sg, mr_fo_sg, mr_ot_sg, mr_le_sg, mr_sz_sg, mr_qk_sg, mr_qv_sg, mr_bg_sg, mr_tp_sg]
  exact h
theorem fm_va (μ : SM) (v : Nat → Int64) : fm (ms_va μ v) = fm μ := by
  unfold fm
  rw [mr_many_va, mr_tk_va, mr_fe_va, mr_kp_va, mr_kk_va, mr_kf_va, mr_kv_va, mr_la_va, mr_so_va, mr_as_va, mr_ki_va, mr_bs_va, mr_cs_va, mr_fo_va, mr_ot_va]
theorem RIn_va {B : Int} {t b : Nat} {σ : SX} {μ : SM} (v : Nat → Int64) (h : RIn B t b σ μ) : RIn B t b σ (ms_va μ v) := by
  unfold RIn
  rw [mr_su_va, mr_co_va, mr_st_va, mr_so_va, mr_as_va, mr_ki_va, mr_bs_va, mr_cs_va, mr_fo_va, mr_ot_va, mr_le_va, mr_sz_va, mr_qk_va, mr_qv_va, mr_bg_va, mr_tp_va]
  exact h
theorem fm_fa (μ : SM) (v : Int32) : fm (ms_fa μ v) = fm μ := by
  unfold fm
  rw [mr_many_fa, mr_tk_fa, mr_fe_fa, mr_kp_fa, mr_kk_fa, mr_kf_fa, mr_kv_fa, mr_la_fa, mr_so_fa, mr_as_fa, mr_ki_fa, mr_bs_fa, mr_cs_fa, mr_fo_fa, mr_ot_fa]
theorem RIn_fa {B : Int} {t b : Nat} {σ : SX} {μ : SM} (v : Int32) (h : RIn B t b σ μ) : RIn B t b σ (ms_fa μ v) := by
  unfold RIn
  rw [mr_su_fa, mr_co_fa, mr_st_fa, mr_so_fa, mr_as_fa, mr_ki_fa, mr_bs_fa, mr_cs_fa, mr_fo_fa, mr_ot_fa, mr_le_fa, mr_sz_fa, mr_qk_fa, mr_qv_fa, mr_bg_fa, mr_tp_fa]
  exact h
theorem Fr_fa {t : Nat} {μ ν : SM} (v : Int32) (h : Fr t μ ν) : Fr t μ (ms_fa ν v) := by
  unfold Fr
  rw [mr_wh_fa, mr_sg_fa, mr_va_fa]
  exact h
theorem fx_bs (σ : SX) (v : Nat → Int64) : fx (xs_bs σ v) = fx σ := by
  unfold fx
  rw [xr_told_bs, xr_tk_bs, xr_fk_bs, xr_fn_bs, xr_fv_bs, xr_fl_bs, xr_bic_bs, xr_n_bs]
theorem fx_bc (σ : SX) (v : Nat → Int32) : fx (xs_bc σ v) = fx σ := by
  unfold fx
  rw [xr_told_bc, xr_tk_bc, xr_fk_bc, xr_fn_bc, xr_fv_bc, xr_fl_bc, xr_bic_bc, xr_n_bc]
theorem fx_hd (σ : SX) (v : Nat → Option Nat) : fx (xs_hd σ v) = fx σ := by
  unfold fx
  rw [xr_told_hd, xr_tk_hd, xr_fk_hd, xr_fn_hd, xr_fv_hd, xr_fl_hd, xr_bic_hd, xr_n_hd]
theorem RInx_told {B : Int} {t b : Nat} {σ : SX} {μ : SM} (v : Int32) (h : RIn B t b σ μ) : RIn B t b (xs_told σ v) μ := by
  unfold RIn
  rw [xr_bs_told, xr_bc_told, xr_hd_told, xr_tab_told, xr_n_told, xr_qf_told, xr_qs_told, xr_qk_told, xr_qv_told, xr_bl_told]
  exact h
theorem fx_qk (σ : SX) (v : Nat → Int32) : fx (xs_qk σ v) = fx σ := by
  unfold fx
  rw [xr_told_qk, xr_tk_qk, xr_fk_qk, xr_fn_qk, xr_fv_qk, xr_fl_qk, xr_bic_qk, xr_n_qk]
theorem fx_qv (σ : SX) (v : Nat → Int64) : fx (xs_qv σ v) = fx σ := by
  unfold fx
  rw [xr_told_qv, xr_tk_qv, xr_fk_qv, xr_fn_qv, xr_fv_qv, xr_fl_qv, xr_bic_qv, xr_n_qv]
theorem fx_qf (σ : SX) (v : Int32) : fx (xs_qf σ v) = fx σ := by
  unfold fx
  rw [xr_told_qf, xr_tk_qf, xr_fk_qf, xr_fn_qf, xr_fv_qf, xr_fl_qf, xr_bic_qf, xr_n_qf]
theorem fx_qs (σ : SX) (v : Int32) : fx (xs_qs σ v) = fx σ := by
  unfold fx
  rw [xr_told_qs, xr_tk_qs, xr_fk_qs, xr_fn_qs, xr_fv_qs, xr_fl_qs, xr_bic_qs, xr_n_qs]
theorem RInx_tk {B : Int} {t b : Nat} {σ : SX} {μ : SM} (v : Int32) (h : RIn B t b σ μ) : RIn B t b (xs_tk σ v) μ := by
  unfold RIn
  rw [xr_bs_tk, xr_bc_tk, xr_hd_tk, xr_tab_tk, xr_n_tk, xr_qf_tk, xr_qs_tk, xr_qk_tk, xr_qv_tk, xr_bl_tk]
  exact h
theorem RInx_fk {B : Int} {t b : Nat} {σ : SX} {μ : SM} (v : Nat → Int32) (h : RIn B t b σ μ) : RIn B t b (xs_fk σ v) μ := by
  unfold RIn
  rw [xr_bs_fk, xr_bc_fk, xr_hd_fk, xr_tab_fk, xr_n_fk, xr_qf_fk, xr_qs_fk, xr_qk_fk, xr_qv_fk, xr_bl_fk]
  exact h
theorem RInx_fn {B : Int} {t b : Nat} {σ : SX} {μ : SM} (v : Nat → Int32) (h : RIn B t b σ μ) : RIn B t b (xs_fn σ v) μ := by
  unfold RIn
  rw [xr_bs_fn, xr_bc_fn, xr_hd_fn, xr_tab_fn, xr_n_fn, xr_qf_fn, xr_qs_fn, xr_qk_fn, xr_qv_fn, xr_bl_fn]
  exact h
theorem RInx_fv {B : Int} {t b : Nat} {σ : SX} {μ : SM} (v : Nat → Int64) (h : RIn B t b σ μ) : RIn B t b (xs_fv σ v) μ := by
  unfold RIn
  rw [xr_bs_fv, xr_bc_fv, xr_hd_fv, xr_tab_fv, xr_n_fv, xr_qf_fv, xr_qs_fv, xr_qk_fv, xr_qv_fv, xr_bl_fv]
  exact h
theorem RInx_fl {B : Int} {t b : Nat} {σ : SX} {μ : SM} (v : Int32) (h : RIn B t b σ μ) : RIn B t b (xs_fl σ v) μ := by
  unfold RIn
  rw [xr_bs_fl, xr_bc_fl, xr_hd_fl, xr_tab_fl, xr_n_fl, xr_qf_fl, xr_qs_fl, xr_qk_fl, xr_qv_fl, xr_bl_fl]
  exact h
theorem fx_bl (σ : SX) (v : Int32) : fx (xs_bl σ v) = fx σ := by
  unfold fx
  rw [xr_told_bl, xr_tk_bl, xr_fk_bl, xr_fn_bl, xr_fv_bl, xr_fl_bl, xr_bic_bl, xr_n_bl]
theorem RInx_bic {B : Int} {t b : Nat} {σ : SX} {μ : SM} (v : Int32) (h : RIn B t b σ μ) : RIn B t b (xs_bic σ v) μ := by
  unfold RIn
  rw [xr_bs_bic, xr_bc_bic, xr_hd_bic, xr_tab_bic, xr_n_bic, xr_qf_bic, xr_qs_bic, xr_qk_bic, xr_qv_bic, xr_bl_bic]
  exact h
theorem fx_tab (σ : SX) (v : Nat → HR) : fx (xs_tab σ v) = fx σ := by
  unfold fx
  rw [xr_told_tab, xr_tk_tab, xr_fk_tab, xr_fn_tab, xr_fv_tab, xr_fl_tab, xr_bic_tab, xr_n_tab]
theorem RIn_tp {B : Int} {t b : Nat} {σ : SX} {μ : SM} {u : Nat} (hu : u ≤ 8) {v : Int32} (hv : v = nI u) (h : RIn B t b σ μ) : RIn B u b σ (ms_tp μ v) := by
  unfold RIn
  rw [mr_su_tp, mr_co_tp, mr_st_tp, mr_so_tp, mr_as_tp, mr_ki_tp, mr_bs_tp, mr_cs_tp, mr_fo_tp, mr_ot_tp, mr_le_tp, mr_sz_tp, mr_qk_tp, mr_qv_tp, mr_bg_tp, mw_tp]
  obtain ⟨h1, h2, h3, h4, h5, h6, h7⟩ := h
  exact ⟨h1, h2, h3, h4, h5, h6, hv, hu⟩
theorem RIn_bg {B : Int} {t b : Nat} {σ : SX} {μ : SM} (hb : b < 16) (h : RIn B t b σ μ) : RIn (B - 2) t (b + 1) (xs_bl σ (x_bl σ + 1)) (ms_bg μ (m_bg μ + 1)) := by
  unfold RIn
  rw [mr_su_bg, mr_co_bg, mr_st_bg, mr_so_bg, mr_as_bg, mr_ki_bg, mr_bs_bg, mr_cs_bg, mr_fo_bg, mr_ot_bg, mr_le_bg, mr_sz_bg, mr_qk_bg, mr_qv_bg, mr_tp_bg, mw_bg, xr_bs_bl, xr_bc_bl, xr_hd_bl, xr_tab_bl, xr_n_bl, xr_qf_bl, xr_qs_bl, xr_qk_bl, xr_qv_bl, xw_bl]
  obtain ⟨h1, h2, h3, h4, h5, h6, h7⟩ := h
  refine ⟨fun i hi => ?_, h2, h3, h4, h5, ⟨by rw [h6.1, nI_1], by rw [h6.2.1, nI_1], by omega⟩, h7⟩
  obtain ⟨g1, g2, c, g3, g4⟩ := h1 i hi
  exact ⟨g1, g2, c, g3, by omega⟩
theorem RIn.up {B C : Int} {t b : Nat} {σ : SX} {μ : SM} (h : RIn B t b σ μ) (hBC : B ≤ C) : RIn C t b σ μ := by
  obtain ⟨h1, h2⟩ := h
  refine ⟨fun i hi => ?_, h2⟩
  obtain ⟨g1, g2, c, g3, g4⟩ := h1 i hi
  exact ⟨g1, g2, c, g3, by omega⟩
