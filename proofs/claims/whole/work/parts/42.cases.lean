theorem act_0 (bg : Option Nat → Int64 → Int32 → SX → Int32 × SX) (j : Nat) (v : Int64) (dp : Int32) (σ : SX) (hs : (h_sort ((x_tab σ) j)) = 0) : xf_act bg j v dp σ = (xf_keep (h_a ((x_tab σ) j)) v σ) := by
  unfold xf_act
  rw [if_pos hs]
theorem act_1 (bg : Option Nat → Int64 → Int32 → SX → Int32 × SX) (j : Nat) (v : Int64) (dp : Int32) (σ : SX) (hs : (h_sort ((x_tab σ) j)) = 1) : xf_act bg j v dp σ = (xf_enqueue (h_a ((x_tab σ) j)) (v + (h_c ((x_tab σ) j))) σ) := by
  unfold xf_act
  rw [if_neg (by rw [hs]; decide), if_pos hs]
theorem act_2 (bg : Option Nat → Int64 → Int32 → SX → Int32 × SX) (j : Nat) (v : Int64) (dp : Int32) (σ : SX) (hs : (h_sort ((x_tab σ) j)) = 2) : xf_act bg j v dp σ = (bg (h_other ((x_tab σ) j)) (v + (h_c ((x_tab σ) j))) (dp + 1) σ) := by
  unfold xf_act
  rw [if_neg (by rw [hs]; decide), if_neg (by rw [hs]; decide), if_pos hs]
theorem act_3 (bg : Option Nat → Int64 → Int32 → SX → Int32 × SX) (j : Nat) (v : Int64) (dp : Int32) (σ : SX) (hs : (h_sort ((x_tab σ) j)) = 3) : xf_act bg j v dp σ = (bg (xf_handlerOf (h_a ((x_tab σ) j)) σ) (v + (h_c ((x_tab σ) j))) (dp + 1) σ) := by
  unfold xf_act
  rw [if_neg (by rw [hs]; decide), if_neg (by rw [hs]; decide), if_neg (by rw [hs]; decide), if_pos hs]
theorem act_4 (bg : Option Nat → Int64 → Int32 → SX → Int32 × SX) (j : Nat) (v : Int64) (dp : Int32) (σ : SX) (hs : (h_sort ((x_tab σ) j)) = 4) : xf_act bg j v dp σ = (xf_sift bg j v dp σ) := by
  unfold xf_act
  rw [if_neg (by rw [hs]; decide), if_neg (by rw [hs]; decide), if_neg (by rw [hs]; decide), if_neg (by rw [hs]; decide), if_pos hs]
theorem act_5 (bg : Option Nat → Int64 → Int32 → SX → Int32 × SX) (j : Nat) (v : Int64) (dp : Int32) (σ : SX) (hs : (h_sort ((x_tab σ) j)) = 5) : xf_act bg j v dp σ = (xf_limit bg j v dp σ) := by
  unfold xf_act
  rw [if_neg (by rw [hs]; decide), if_neg (by rw [hs]; decide), if_neg (by rw [hs]; decide), if_neg (by rw [hs]; decide), if_neg (by rw [hs]; decide), if_pos hs]
theorem act_6 (bg : Option Nat → Int64 → Int32 → SX → Int32 × SX) (j : Nat) (v : Int64) (dp : Int32) (σ : SX) (hs : (h_sort ((x_tab σ) j)) = 6) : xf_act bg j v dp σ = (xf_once j v σ) := by
  unfold xf_act
  rw [if_neg (by rw [hs]; decide), if_neg (by rw [hs]; decide), if_neg (by rw [hs]; decide), if_neg (by rw [hs]; decide), if_neg (by rw [hs]; decide), if_neg (by rw [hs]; decide), if_pos hs]
theorem act_7 (bg : Option Nat → Int64 → Int32 → SX → Int32 × SX) (j : Nat) (v : Int64) (dp : Int32) (σ : SX) (hs : (h_sort ((x_tab σ) j)) = 7) : xf_act bg j v dp σ = (xf_both bg j v dp σ) := by
  unfold xf_act
  rw [if_neg (by rw [hs]; decide), if_neg (by rw [hs]; decide), if_neg (by rw [hs]; decide), if_neg (by rw [hs]; decide), if_neg (by rw [hs]; decide), if_neg (by rw [hs]; decide), if_neg (by rw [hs]; decide), if_pos hs]
theorem act_8 (bg : Option Nat → Int64 → Int32 → SX → Int32 × SX) (j : Nat) (v : Int64) (dp : Int32) (σ : SX) (hs : (h_sort ((x_tab σ) j)) = 8) : xf_act bg j v dp σ = (xf_share j v σ) := by
  unfold xf_act
  rw [if_neg (by rw [hs]; decide), if_neg (by rw [hs]; decide), if_neg (by rw [hs]; decide), if_neg (by rw [hs]; decide), if_neg (by rw [hs]; decide), if_neg (by rw [hs]; decide), if_neg (by rw [hs]; decide), if_neg (by rw [hs]; decide), if_pos hs]
theorem act_9 (bg : Option Nat → Int64 → Int32 → SX → Int32 × SX) (j : Nat) (v : Int64) (dp : Int32) (σ : SX) (hs : (h_sort ((x_tab σ) j)) = 9) : xf_act bg j v dp σ = (xf_keep ((v).toInt32) 1 σ) := by
  unfold xf_act
  rw [if_neg (by rw [hs]; decide), if_neg (by rw [hs]; decide), if_neg (by rw [hs]; decide), if_neg (by rw [hs]; decide), if_neg (by rw [hs]; decide), if_neg (by rw [hs]; decide), if_neg (by rw [hs]; decide), if_neg (by rw [hs]; decide), if_neg (by rw [hs]; decide), if_pos hs]
theorem act_10 (bg : Option Nat → Int64 → Int32 → SX → Int32 × SX) (j : Nat) (v : Int64) (dp : Int32) (σ : SX) (hs : (h_sort ((x_tab σ) j)) = 10) : xf_act bg j v dp σ = (xf_keepFailure bg j v dp σ) := by
  unfold xf_act
  rw [if_neg (by rw [hs]; decide), if_neg (by rw [hs]; decide), if_neg (by rw [hs]; decide), if_neg (by rw [hs]; decide), if_neg (by rw [hs]; decide), if_neg (by rw [hs]; decide), if_neg (by rw [hs]; decide), if_neg (by rw [hs]; decide), if_neg (by rw [hs]; decide), if_neg (by rw [hs]; decide), if_pos hs]
theorem act_11 (bg : Option Nat → Int64 → Int32 → SX → Int32 × SX) (j : Nat) (v : Int64) (dp : Int32) (σ : SX) (hs : (h_sort ((x_tab σ) j)) = 11) : xf_act bg j v dp σ = (xf_mean bg j v dp σ) := by
  unfold xf_act
  rw [if_neg (by rw [hs]; decide), if_neg (by rw [hs]; decide), if_neg (by rw [hs]; decide), if_neg (by rw [hs]; decide), if_neg (by rw [hs]; decide), if_neg (by rw [hs]; decide), if_neg (by rw [hs]; decide), if_neg (by rw [hs]; decide), if_neg (by rw [hs]; decide), if_neg (by rw [hs]; decide), if_neg (by rw [hs]; decide), if_pos hs]
theorem act_12 (bg : Option Nat → Int64 → Int32 → SX → Int32 × SX) (j : Nat) (v : Int64) (dp : Int32) (σ : SX) (hs : (h_sort ((x_tab σ) j)) = 12) : xf_act bg j v dp σ = (xf_keepAndSend j v σ) := by
  unfold xf_act
  rw [if_neg (by rw [hs]; decide), if_neg (by rw [hs]; decide), if_neg (by rw [hs]; decide), if_neg (by rw [hs]; decide), if_neg (by rw [hs]; decide), if_neg (by rw [hs]; decide), if_neg (by rw [hs]; decide), if_neg (by rw [hs]; decide), if_neg (by rw [hs]; decide), if_neg (by rw [hs]; decide), if_neg (by rw [hs]; decide), if_neg (by rw [hs]; decide)]
theorem begins_0 (ix h : Int32) (v : Int64) (σ : SM) (hs : ((m_so σ) h.toNatClampNeg) = 0) : mf_begins ix h v σ = (mf_ends 0 (mf_keep ((m_as σ) h.toNatClampNeg) v σ)) := by
  unfold mf_begins
  rw [if_pos hs]
theorem begins_1 (ix h : Int32) (v : Int64) (σ : SM) (hs : ((m_so σ) h.toNatClampNeg) = 1) : mf_begins ix h v σ = (mf_sends ((m_as σ) h.toNatClampNeg) (v + ((m_cs σ) h.toNatClampNeg)) σ) := by
  unfold mf_begins
  rw [if_neg (by rw [hs]; decide), if_pos hs]
theorem begins_2 (ix h : Int32) (v : Int64) (σ : SM) (hs : ((m_so σ) h.toNatClampNeg) = 2) : mf_begins ix h v σ = (mf_goOn ix ((m_ot σ) h.toNatClampNeg) (v + ((m_cs σ) h.toNatClampNeg)) σ) := by
  unfold mf_begins
  rw [if_neg (by rw [hs]; decide), if_neg (by rw [hs]; decide), if_pos hs]
theorem begins_3 (ix h : Int32) (v : Int64) (σ : SM) (hs : ((m_so σ) h.toNatClampNeg) = 3) : mf_begins ix h v σ = (mf_goOn ix ((m_st σ) ((m_as σ) h.toNatClampNeg).toNatClampNeg) (v + ((m_cs σ) h.toNatClampNeg)) σ) := by
  unfold mf_begins
  rw [if_neg (by rw [hs]; decide), if_neg (by rw [hs]; decide), if_neg (by rw [hs]; decide), if_pos hs]
theorem begins_4 (ix h : Int32) (v : Int64) (σ : SM) (hs : ((m_so σ) h.toNatClampNeg) = 4) : mf_begins ix h v σ = if (lg_cmp ((m_cs σ) h.toNatClampNeg) 0) = 0 then (mf_ends 2 σ) else (if (lg_cmp (v - v / ((m_cs σ) h.toNatClampNeg) * ((m_cs σ) h.toNatClampNeg)) ((((m_as σ) h.toNatClampNeg)).toInt64)) = 0 then (mf_goOn ix ((m_fo σ) h.toNatClampNeg) v σ) else (mf_ends 0 σ)) := by
  unfold mf_begins
  rw [if_neg (by rw [hs]; decide), if_neg (by rw [hs]; decide), if_neg (by rw [hs]; decide), if_neg (by rw [hs]; decide), if_pos hs]
theorem begins_5 (ix h : Int32) (v : Int64) (σ : SM) (hs : ((m_so σ) h.toNatClampNeg) = 5) : mf_begins ix h v σ = if ((m_le σ) h.toNatClampNeg) = ((m_bs σ) h.toNatClampNeg) then (mf_ends 4 σ) else (mf_goOn ix ((m_fo σ) h.toNatClampNeg) v (ms_le σ (upd (m_le σ) h.toNatClampNeg (((m_le σ) h.toNatClampNeg) + 1)))) := by
  unfold mf_begins
  rw [if_neg (by rw [hs]; decide), if_neg (by rw [hs]; decide), if_neg (by rw [hs]; decide), if_neg (by rw [hs]; decide), if_neg (by rw [hs]; decide), if_pos hs]
theorem begins_6 (ix h : Int32) (v : Int64) (σ : SM) (hs : ((m_so σ) h.toNatClampNeg) = 6) : mf_begins ix h v σ = (mf_ends 0 (ms_st (mf_keep ((m_as σ) h.toNatClampNeg) v σ) (upd (m_st (mf_keep ((m_as σ) h.toNatClampNeg) v σ)) (((m_ki (mf_keep ((m_as σ) h.toNatClampNeg) v σ)) h.toNatClampNeg).toNatClampNeg) ((m_fo (mf_keep ((m_as σ) h.toNatClampNeg) v σ)) h.toNatClampNeg)))) := by
  unfold mf_begins
  rw [if_neg (by rw [hs]; decide), if_neg (by rw [hs]; decide), if_neg (by rw [hs]; decide), if_neg (by rw [hs]; decide), if_neg (by rw [hs]; decide), if_neg (by rw [hs]; decide), if_pos hs]
theorem begins_7 (ix h : Int32) (v : Int64) (σ : SM) (hs : ((m_so σ) h.toNatClampNeg) = 7) : mf_begins ix h v σ = (mf_goOn ix ((m_fo σ) h.toNatClampNeg) v σ) := by
  unfold mf_begins
  rw [if_neg (by rw [hs]; decide), if_neg (by rw [hs]; decide), if_neg (by rw [hs]; decide), if_neg (by rw [hs]; decide), if_neg (by rw [hs]; decide), if_neg (by rw [hs]; decide), if_neg (by rw [hs]; decide), if_pos hs]
theorem begins_8 (ix h : Int32) (v : Int64) (σ : SM) (hs : ((m_so σ) h.toNatClampNeg) = 8) : mf_begins ix h v σ = (mf_shares ((m_as σ) h.toNatClampNeg) ((m_bs σ) h.toNatClampNeg) v ((m_cs σ) h.toNatClampNeg) σ) := by
  unfold mf_begins
  rw [if_neg (by rw [hs]; decide), if_neg (by rw [hs]; decide), if_neg (by rw [hs]; decide), if_neg (by rw [hs]; decide), if_neg (by rw [hs]; decide), if_neg (by rw [hs]; decide), if_neg (by rw [hs]; decide), if_neg (by rw [hs]; decide), if_pos hs]
theorem begins_9 (ix h : Int32) (v : Int64) (σ : SM) (hs : ((m_so σ) h.toNatClampNeg) = 9) : mf_begins ix h v σ = if (mf_isBox ((v).toInt32)) = 0 then (if (mf_isBox ((v).toInt32)) = 0 then (mf_ends 3 σ) else (mf_ends 0 σ)) else (if (mf_isBox ((v).toInt32)) = 0 then (mf_ends 3 (mf_keep ((v).toInt32) 1 σ)) else (mf_ends 0 (mf_keep ((v).toInt32) 1 σ))) := by
  unfold mf_begins
  rw [if_neg (by rw [hs]; decide), if_neg (by rw [hs]; decide), if_neg (by rw [hs]; decide), if_neg (by rw [hs]; decide), if_neg (by rw [hs]; decide), if_neg (by rw [hs]; decide), if_neg (by rw [hs]; decide), if_neg (by rw [hs]; decide), if_neg (by rw [hs]; decide), if_pos hs]
theorem begins_10 (ix h : Int32) (v : Int64) (σ : SM) (hs : ((m_so σ) h.toNatClampNeg) = 10) : mf_begins ix h v σ = (mf_goOn ix ((m_fo σ) h.toNatClampNeg) v σ) := by
  unfold mf_begins
  rw [if_neg (by rw [hs]; decide), if_neg (by rw [hs]; decide), if_neg (by rw [hs]; decide), if_neg (by rw [hs]; decide), if_neg (by rw [hs]; decide), if_neg (by rw [hs]; decide), if_neg (by rw [hs]; decide), if_neg (by rw [hs]; decide), if_neg (by rw [hs]; decide), if_neg (by rw [hs]; decide), if_pos hs]
theorem begins_11 (ix h : Int32) (v : Int64) (σ : SM) (hs : ((m_so σ) h.toNatClampNeg) = 11) : mf_begins ix h v σ = if 0 ≤ ((m_fo (mf_keep ((m_as σ) h.toNatClampNeg) v σ)) h.toNatClampNeg) then (mf_goOn ix ((m_fo (mf_keep ((m_as σ) h.toNatClampNeg) v σ)) h.toNatClampNeg) (((m_su (mf_keep ((m_as σ) h.toNatClampNeg) v σ)) ((m_as σ) h.toNatClampNeg).toNatClampNeg) / (((m_co (mf_keep ((m_as σ) h.toNatClampNeg) v σ)) ((m_as σ) h.toNatClampNeg).toNatClampNeg)).toInt64) (mf_keep ((m_as σ) h.toNatClampNeg) v σ)) else (mf_ends 0 (mf_keep ((m_as σ) h.toNatClampNeg) v σ)) := by
  unfold mf_begins
  rw [if_neg (by rw [hs]; decide), if_neg (by rw [hs]; decide), if_neg (by rw [hs]; decide), if_neg (by rw [hs]; decide), if_neg (by rw [hs]; decide), if_neg (by rw [hs]; decide), if_neg (by rw [hs]; decide), if_neg (by rw [hs]; decide), if_neg (by rw [hs]; decide), if_neg (by rw [hs]; decide), if_neg (by rw [hs]; decide), if_pos hs]
theorem begins_12 (ix h : Int32) (v : Int64) (σ : SM) (hs : ((m_so σ) h.toNatClampNeg) = 12) : mf_begins ix h v σ = if (lg_cmp v 1) ≤ 0 then (mf_ends 0 (mf_keep 1 v σ)) else (mf_sends 0 (v - 1) (mf_keep 1 v σ)) := by
  unfold mf_begins
  rw [if_neg (by rw [hs]; decide), if_neg (by rw [hs]; decide), if_neg (by rw [hs]; decide), if_neg (by rw [hs]; decide), if_neg (by rw [hs]; decide), if_neg (by rw [hs]; decide), if_neg (by rw [hs]; decide), if_neg (by rw [hs]; decide), if_neg (by rw [hs]; decide), if_neg (by rw [hs]; decide), if_neg (by rw [hs]; decide), if_neg (by rw [hs]; decide), if_pos hs]
