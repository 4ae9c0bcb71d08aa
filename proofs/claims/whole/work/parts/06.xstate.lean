/-! the state of a MailRoom: boxes, handlers by number, the queue, the failed; and its cells -/
abbrev HR : Type := Int32 × Int32 × Int32 × Int32 × Int64 × Option Nat × Option Nat × Int32
noncomputable def h_kind (h : HR) : Int32 := h.1
noncomputable def h_sort (h : HR) : Int32 := h.2.1
noncomputable def h_a (h : HR) : Int32 := h.2.2.1
noncomputable def h_b (h : HR) : Int32 := h.2.2.2.1
noncomputable def h_c (h : HR) : Int64 := h.2.2.2.2.1
noncomputable def h_former (h : HR) : Option Nat := h.2.2.2.2.2.1
noncomputable def h_other (h : HR) : Option Nat := h.2.2.2.2.2.2.1
noncomputable def h_begun (h : HR) : Int32 := h.2.2.2.2.2.2.2
noncomputable def hs_begun (h : HR) (v : Int32) : HR := (h.1, h.2.1, h.2.2.1, h.2.2.2.1, h.2.2.2.2.1, h.2.2.2.2.2.1, h.2.2.2.2.2.2.1, v)
noncomputable def hFs (ad : Nat → Nat) (h : HR) : List Value := [.int (h_kind h), .int (h_sort h), .int (h_a h), .int (h_b h), .long (h_c h), va_re ad (h_former h), va_re ad (h_other h), .int (h_begun h)]
noncomputable def xPl (ad : Nat → Nat) (n : Nat) (tab : Nat → HR) : va_W := (List.range n).map (fun i => (ad i, .inr (0, hFs ad (tab i))))
abbrev SX : Type := (Nat → Int64) × (Nat → Int32) × (Nat → Option Nat) × Int32 × (Nat → Int32) × (Nat → Int64) × Int32 × Int32 × Int32 × (Nat → Int32) × (Nat → Int32) × (Nat → Int64) × Int32 × Int32 × Int32 × Nat × (Nat → HR)
noncomputable def x_bs (σ : SX) : Nat → Int64 := σ.1
noncomputable def x_bc (σ : SX) : Nat → Int32 := σ.2.1
noncomputable def x_hd (σ : SX) : Nat → Option Nat := σ.2.2.1
noncomputable def x_told (σ : SX) : Int32 := σ.2.2.2.1
noncomputable def x_qk (σ : SX) : Nat → Int32 := σ.2.2.2.2.1
noncomputable def x_qv (σ : SX) : Nat → Int64 := σ.2.2.2.2.2.1
noncomputable def x_qf (σ : SX) : Int32 := σ.2.2.2.2.2.2.1
noncomputable def x_qs (σ : SX) : Int32 := σ.2.2.2.2.2.2.2.1
noncomputable def x_tk (σ : SX) : Int32 := σ.2.2.2.2.2.2.2.2.1
noncomputable def x_fk (σ : SX) : Nat → Int32 := σ.2.2.2.2.2.2.2.2.2.1
noncomputable def x_fn (σ : SX) : Nat → Int32 := σ.2.2.2.2.2.2.2.2.2.2.1
noncomputable def x_fv (σ : SX) : Nat → Int64 := σ.2.2.2.2.2.2.2.2.2.2.2.1
noncomputable def x_fl (σ : SX) : Int32 := σ.2.2.2.2.2.2.2.2.2.2.2.2.1
noncomputable def x_bl (σ : SX) : Int32 := σ.2.2.2.2.2.2.2.2.2.2.2.2.2.1
noncomputable def x_bic (σ : SX) : Int32 := σ.2.2.2.2.2.2.2.2.2.2.2.2.2.2.1
noncomputable def x_n (σ : SX) : Nat := σ.2.2.2.2.2.2.2.2.2.2.2.2.2.2.2.1
noncomputable def x_tab (σ : SX) : Nat → HR := σ.2.2.2.2.2.2.2.2.2.2.2.2.2.2.2.2
noncomputable def xs_bs (σ : SX) (v : Nat → Int64) : SX := (v, σ.2)
noncomputable def xs_bc (σ : SX) (v : Nat → Int32) : SX := (σ.1, v, σ.2.2)
noncomputable def xs_hd (σ : SX) (v : Nat → Option Nat) : SX := (σ.1, σ.2.1, v, σ.2.2.2)
noncomputable def xs_told (σ : SX) (v : Int32) : SX := (σ.1, σ.2.1, σ.2.2.1, v, σ.2.2.2.2)
noncomputable def xs_qk (σ : SX) (v : Nat → Int32) : SX := (σ.1, σ.2.1, σ.2.2.1, σ.2.2.2.1, v, σ.2.2.2.2.2)
noncomputable def xs_qv (σ : SX) (v : Nat → Int64) : SX := (σ.1, σ.2.1, σ.2.2.1, σ.2.2.2.1, σ.2.2.2.2.1, v, σ.2.2.2.2.2.2)
noncomputable def xs_qf (σ : SX) (v : Int32) : SX := (σ.1, σ.2.1, σ.2.2.1, σ.2.2.2.1, σ.2.2.2.2.1, σ.2.2.2.2.2.1, v, σ.2.2.2.2.2.2.2)
noncomputable def xs_qs (σ : SX) (v : Int32) : SX := (σ.1, σ.2.1, σ.2.2.1, σ.2.2.2.1, σ.2.2.2.2.1, σ.2.2.2.2.2.1, σ.2.2.2.2.2.2.1, v, σ.2.2.2.2.2.2.2.2)
noncomputable def xs_tk (σ : SX) (v : Int32) : SX := (σ.1, σ.2.1, σ.2.2.1, σ.2.2.2.1, σ.2.2.2.2.1, σ.2.2.2.2.2.1, σ.2.2.2.2.2.2.1, σ.2.2.2.2.2.2.2.1, v, σ.2.2.2.2.2.2.2.2.2)
noncomputable def xs_fk (σ : SX) (v : Nat → Int32) : SX := (σ.1, σ.2.1, σ.2.2.1, σ.2.2.2.1, σ.2.2.2.2.1, σ.2.2.2.2.2.1, σ.2.2.2.2.2.2.1, σ.2.2.2.2.2.2.2.1, σ.2.2.2.2.2.2.2.2.1, v, σ.2.2.2.2.2.2.2.2.2.2)
noncomputable def xs_fn (σ : SX) (v : Nat → Int32) : SX := (σ.1, σ.2.1, σ.2.2.1, σ.2.2.2.1, σ.2.2.2.2.1, σ.2.2.2.2.2.1, σ.2.2.2.2.2.2.1, σ.2.2.2.2.2.2.2.1, σ.2.2.2.2.2.2.2.2.1, σ.2.2.2.2.2.2.2.2.2.1, v, σ.2.2.2.2.2.2.2.2.2.2.2)
noncomputable def xs_fv (σ : SX) (v : Nat → Int64) : SX := (σ.1, σ.2.1, σ.2.2.1, σ.2.2.2.1, σ.2.2.2.2.1, σ.2.2.2.2.2.1, σ.2.2.2.2.2.2.1, σ.2.2.2.2.2.2.2.1, σ.2.2.2.2.2.2.2.2.1, σ.2.2.2.2.2.2.2.2.2.1, σ.2.2.2.2.2.2.2.2.2.2.1, v, σ.2.2.2.2.2.2.2.2.2.2.2.2)
noncomputable def xs_fl (σ : SX) (v : Int32) : SX := (σ.1, σ.2.1, σ.2.2.1, σ.2.2.2.1, σ.2.2.2.2.1, σ.2.2.2.2.2.1, σ.2.2.2.2.2.2.1, σ.2.2.2.2.2.2.2.1, σ.2.2.2.2.2.2.2.2.1, σ.2.2.2.2.2.2.2.2.2.1, σ.2.2.2.2.2.2.2.2.2.2.1, σ.2.2.2.2.2.2.2.2.2.2.2.1, v, σ.2.2.2.2.2.2.2.2.2.2.2.2.2)
noncomputable def xs_bl (σ : SX) (v : Int32) : SX := (σ.1, σ.2.1, σ.2.2.1, σ.2.2.2.1, σ.2.2.2.2.1, σ.2.2.2.2.2.1, σ.2.2.2.2.2.2.1, σ.2.2.2.2.2.2.2.1, σ.2.2.2.2.2.2.2.2.1, σ.2.2.2.2.2.2.2.2.2.1, σ.2.2.2.2.2.2.2.2.2.2.1, σ.2.2.2.2.2.2.2.2.2.2.2.1, σ.2.2.2.2.2.2.2.2.2.2.2.2.1, v, σ.2.2.2.2.2.2.2.2.2.2.2.2.2.2)
noncomputable def xs_bic (σ : SX) (v : Int32) : SX := (σ.1, σ.2.1, σ.2.2.1, σ.2.2.2.1, σ.2.2.2.2.1, σ.2.2.2.2.2.1, σ.2.2.2.2.2.2.1, σ.2.2.2.2.2.2.2.1, σ.2.2.2.2.2.2.2.2.1, σ.2.2.2.2.2.2.2.2.2.1, σ.2.2.2.2.2.2.2.2.2.2.1, σ.2.2.2.2.2.2.2.2.2.2.2.1, σ.2.2.2.2.2.2.2.2.2.2.2.2.1, σ.2.2.2.2.2.2.2.2.2.2.2.2.2.1, v, σ.2.2.2.2.2.2.2.2.2.2.2.2.2.2.2)
noncomputable def xs_n (σ : SX) (v : Nat) : SX := (σ.1, σ.2.1, σ.2.2.1, σ.2.2.2.1, σ.2.2.2.2.1, σ.2.2.2.2.2.1, σ.2.2.2.2.2.2.1, σ.2.2.2.2.2.2.2.1, σ.2.2.2.2.2.2.2.2.1, σ.2.2.2.2.2.2.2.2.2.1, σ.2.2.2.2.2.2.2.2.2.2.1, σ.2.2.2.2.2.2.2.2.2.2.2.1, σ.2.2.2.2.2.2.2.2.2.2.2.2.1, σ.2.2.2.2.2.2.2.2.2.2.2.2.2.1, σ.2.2.2.2.2.2.2.2.2.2.2.2.2.2.1, v, σ.2.2.2.2.2.2.2.2.2.2.2.2.2.2.2.2)
noncomputable def xs_tab (σ : SX) (v : Nat → HR) : SX := (σ.1, σ.2.1, σ.2.2.1, σ.2.2.2.1, σ.2.2.2.2.1, σ.2.2.2.2.2.1, σ.2.2.2.2.2.2.1, σ.2.2.2.2.2.2.2.1, σ.2.2.2.2.2.2.2.2.1, σ.2.2.2.2.2.2.2.2.2.1, σ.2.2.2.2.2.2.2.2.2.2.1, σ.2.2.2.2.2.2.2.2.2.2.2.1, σ.2.2.2.2.2.2.2.2.2.2.2.2.1, σ.2.2.2.2.2.2.2.2.2.2.2.2.2.1, σ.2.2.2.2.2.2.2.2.2.2.2.2.2.2.1, σ.2.2.2.2.2.2.2.2.2.2.2.2.2.2.2.1, v)
theorem xw_bs (σ : SX) (v : Nat → Int64) : x_bs (xs_bs σ v) = v := rfl
theorem xr_bs_bc (σ : SX) (v : Nat → Int32) : x_bs (xs_bc σ v) = x_bs σ := rfl
theorem xr_bs_hd (σ : SX) (v : Nat → Option Nat) : x_bs (xs_hd σ v) = x_bs σ := rfl
theorem xr_bs_told (σ : SX) (v : Int32) : x_bs (xs_told σ v) = x_bs σ := rfl
theorem xr_bs_qk (σ : SX) (v : Nat → Int32) : x_bs (xs_qk σ v) = x_bs σ := rfl
theorem xr_bs_qv (σ : SX) (v : Nat → Int64) : x_bs (xs_qv σ v) = x_bs σ := rfl
theorem xr_bs_qf (σ : SX) (v : Int32) : x_bs (xs_qf σ v) = x_bs σ := rfl
theorem xr_bs_qs (σ : SX) (v : Int32) : x_bs (xs_qs σ v) = x_bs σ := rfl
theorem xr_bs_tk (σ : SX) (v : Int32) : x_bs (xs_tk σ v) = x_bs σ := rfl
theorem xr_bs_fk (σ : SX) (v : Nat → Int32) : x_bs (xs_fk σ v) = x_bs σ := rfl
theorem xr_bs_fn (σ : SX) (v : Nat → Int32) : x_bs (xs_fn σ v) = x_bs σ := rfl
theorem xr_bs_fv (σ : SX) (v : Nat → Int64) : x_bs (xs_fv σ v) = x_bs σ := rfl
theorem xr_bs_fl (σ : SX) (v : Int32) : x_bs (xs_fl σ v) = x_bs σ := rfl
theorem xr_bs_bl (σ : SX) (v : Int32) : x_bs (xs_bl σ v) = x_bs σ := rfl
theorem xr_bs_bic (σ : SX) (v : Int32) : x_bs (xs_bic σ v) = x_bs σ := rfl
theorem xr_bs_n (σ : SX) (v : Nat) : x_bs (xs_n σ v) = x_bs σ := rfl
theorem xr_bs_tab (σ : SX) (v : Nat → HR) : x_bs (xs_tab σ v) = x_bs σ := rfl
theorem xw_bc (σ : SX) (v : Nat → Int32) : x_bc (xs_bc σ v) = v := rfl
theorem xr_bc_bs (σ : SX) (v : Nat → Int64) : x_bc (xs_bs σ v) = x_bc σ := rfl
theorem xr_bc_hd (σ : SX) (v : Nat → Option Nat) : x_bc (xs_hd σ v) = x_bc σ := rfl
theorem xr_bc_told (σ : SX) (v : Int32) : x_bc (xs_told σ v) = x_bc σ := rfl
theorem xr_bc_qk (σ : SX) (v : Nat → Int32) : x_bc (xs_qk σ v) = x_bc σ := rfl
theorem xr_bc_qv (σ : SX) (v : Nat → Int64) : x_bc (xs_qv σ v) = x_bc σ := rfl
theorem xr_bc_qf (σ : SX) (v : Int32) : x_bc (xs_qf σ v) = x_bc σ := rfl
theorem xr_bc_qs (σ : SX) (v : Int32) : x_bc (xs_qs σ v) = x_bc σ := rfl
theorem xr_bc_tk (σ : SX) (v : Int32) : x_bc (xs_tk σ v) = x_bc σ := rfl
theorem xr_bc_fk (σ : SX) (v : Nat → Int32) : x_bc (xs_fk σ v) = x_bc σ := rfl
theorem xr_bc_fn (σ : SX) (v : Nat → Int32) : x_bc (xs_fn σ v) = x_bc σ := rfl
theorem xr_bc_fv (σ : SX) (v : Nat → Int64) : x_bc (xs_fv σ v) = x_bc σ := rfl
theorem xr_bc_fl (σ : SX) (v : Int32) : x_bc (xs_fl σ v) = x_bc σ := rfl
theorem xr_bc_bl (σ : SX) (v : Int32) : x_bc (xs_bl σ v) = x_bc σ := rfl
theorem xr_bc_bic (σ : SX) (v : Int32) : x_bc (xs_bic σ v) = x_bc σ := rfl
theorem xr_bc_n (σ : SX) (v : Nat) : x_bc (xs_n σ v) = x_bc σ := rfl
theorem xr_bc_tab (σ : SX) (v : Nat → HR) : x_bc (xs_tab σ v) = x_bc σ := rfl
theorem xw_hd (σ : SX) (v : Nat → Option Nat) : x_hd (xs_hd σ v) = v := rfl
theorem xr_hd_bs (σ : SX) (v : Nat → Int64) : x_hd (xs_bs σ v) = x_hd σ := rfl
theorem xr_hd_bc (σ : SX) (v : Nat → Int32) : x_hd (xs_bc σ v) = x_hd σ := rfl
theorem xr_hd_told (σ : SX) (v : Int32) : x_hd (xs_told σ v) = x_hd σ := rfl
theorem xr_hd_qk (σ : SX) (v : Nat → Int32) : x_hd (xs_qk σ v) = x_hd σ := rfl
theorem xr_hd_qv (σ : SX) (v : Nat → Int64) : x_hd (xs_qv σ v) = x_hd σ := rfl
theorem xr_hd_qf (σ : SX) (v : Int32) : x_hd (xs_qf σ v) = x_hd σ := rfl
theorem xr_hd_qs (σ : SX) (v : Int32) : x_hd (xs_qs σ v) = x_hd σ := rfl
theorem xr_hd_tk (σ : SX) (v : Int32) : x_hd (xs_tk σ v) = x_hd σ := rfl
theorem xr_hd_fk (σ : SX) (v : Nat → Int32) : x_hd (xs_fk σ v) = x_hd σ := rfl
theorem xr_hd_fn (σ : SX) (v : Nat → Int32) : x_hd (xs_fn σ v) = x_hd σ := rfl
theorem xr_hd_fv (σ : SX) (v : Nat → Int64) : x_hd (xs_fv σ v) = x_hd σ := rfl
theorem xr_hd_fl (σ : SX) (v : Int32) : x_hd (xs_fl σ v) = x_hd σ := rfl
theorem xr_hd_bl (σ : SX) (v : Int32) : x_hd (xs_bl σ v) = x_hd σ := rfl
theorem xr_hd_bic (σ : SX) (v : Int32) : x_hd (xs_bic σ v) = x_hd σ := rfl
theorem xr_hd_n (σ : SX) (v : Nat) : x_hd (xs_n σ v) = x_hd σ := rfl
theorem xr_hd_tab (σ : SX) (v : Nat → HR) : x_hd (xs_tab σ v) = x_hd σ := rfl
theorem xw_told (σ : SX) (v : Int32) : x_told (xs_told σ v) = v := rfl
theorem xr_told_bs (σ : SX) (v : Nat → Int64) : x_told (xs_bs σ v) = x_told σ := rfl
theorem xr_told_bc (σ : SX) (v : Nat → Int32) : x_told (xs_bc σ v) = x_told σ := rfl
theorem xr_told_hd (σ : SX) (v : Nat → Option Nat) : x_told (xs_hd σ v) = x_told σ := rfl
theorem xr_told_qk (σ : SX) (v : Nat → Int32) : x_told (xs_qk σ v) = x_told σ := rfl
theorem xr_told_qv (σ : SX) (v : Nat → Int64) : x_told (xs_qv σ v) = x_told σ := rfl
theorem xr_told_qf (σ : SX) (v : Int32) : x_told (xs_qf σ v) = x_told σ := rfl
theorem xr_told_qs (σ : SX) (v : Int32) : x_told (xs_qs σ v) = x_told σ := rfl
theorem xr_told_tk (σ : SX) (v : Int32) : x_told (xs_tk σ v) = x_told σ := rfl
theorem xr_told_fk (σ : SX) (v : Nat → Int32) : x_told (xs_fk σ v) = x_told σ := rfl
theorem xr_told_fn (σ : SX) (v : Nat → Int32) : x_told (xs_fn σ v) = x_told σ := rfl
theorem xr_told_fv (σ : SX) (v : Nat → Int64) : x_told (xs_fv σ v) = x_told σ := rfl
theorem xr_told_fl (σ : SX) (v : Int32) : x_told (xs_fl σ v) = x_told σ := rfl
theorem xr_told_bl (σ : SX) (v : Int32) : x_told (xs_bl σ v) = x_told σ := rfl
theorem xr_told_bic (σ : SX) (v : Int32) : x_told (xs_bic σ v) = x_told σ := rfl
theorem xr_told_n (σ : SX) (v : Nat) : x_told (xs_n σ v) = x_told σ := rfl
theorem xr_told_tab (σ : SX) (v : Nat → HR) : x_told (xs_tab σ v) = x_told σ := rfl
theorem xw_qk (σ : SX) (v : Nat → Int32) : x_qk (xs_qk σ v) = v := rfl
theorem xr_qk_bs (σ : SX) (v : Nat → Int64) : x_qk (xs_bs σ v) = x_qk σ := rfl
theorem xr_qk_bc (σ : SX) (v : Nat → Int32) : x_qk (xs_bc σ v) = x_qk σ := rfl
theorem xr_qk_hd (σ : SX) (v : Nat → Option Nat) : x_qk (xs_hd σ v) = x_qk σ := rfl
theorem xr_qk_told (σ : SX) (v : Int32) : x_qk (xs_told σ v) = x_qk σ := rfl
theorem xr_qk_qv (σ : SX) (v : Nat → Int64) : x_qk (xs_qv σ v) = x_qk σ := rfl
theorem xr_qk_qf (σ : SX) (v : Int32) : x_qk (xs_qf σ v) = x_qk σ := rfl
theorem xr_qk_qs (σ : SX) (v : Int32) : x_qk (xs_qs σ v) = x_qk σ := rfl
theorem xr_qk_tk (σ : SX) (v : Int32) : x_qk (xs_tk σ v) = x_qk σ := rfl
theorem xr_qk_fk (σ : SX) (v : Nat → Int32) : x_qk (xs_fk σ v) = x_qk σ := rfl
theorem xr_qk_fn (σ : SX) (v : Nat → Int32) : x_qk (xs_fn σ v) = x_qk σ := rfl
theorem xr_qk_fv (σ : SX) (v : Nat → Int64) : x_qk (xs_fv σ v) = x_qk σ := rfl
theorem xr_qk_fl (σ : SX) (v : Int32) : x_qk (xs_fl σ v) = x_qk σ := rfl
theorem xr_qk_bl (σ : SX) (v : Int32) : x_qk (xs_bl σ v) = x_qk σ := rfl
theorem xr_qk_bic (σ : SX) (v : Int32) : x_qk (xs_bic σ v) = x_qk σ := rfl
theorem xr_qk_n (σ : SX) (v : Nat) : x_qk (xs_n σ v) = x_qk σ := rfl
theorem xr_qk_tab (σ : SX) (v : Nat → HR) : x_qk (xs_tab σ v) = x_qk σ := rfl
theorem xw_qv (σ : SX) (v : Nat → Int64) : x_qv (xs_qv σ v) = v := rfl
theorem xr_qv_bs (σ : SX) (v : Nat → Int64) : x_qv (xs_bs σ v) = x_qv σ := rfl
theorem xr_qv_bc (σ : SX) (v : Nat → Int32) : x_qv (xs_bc σ v) = x_qv σ := rfl
theorem xr_qv_hd (σ : SX) (v : Nat → Option Nat) : x_qv (xs_hd σ v) = x_qv σ := rfl
theorem xr_qv_told (σ : SX) (v : Int32) : x_qv (xs_told σ v) = x_qv σ := rfl
theorem xr_qv_qk (σ : SX) (v : Nat → Int32) : x_qv (xs_qk σ v) = x_qv σ := rfl
theorem xr_qv_qf (σ : SX) (v : Int32) : x_qv (xs_qf σ v) = x_qv σ := rfl
theorem xr_qv_qs (σ : SX) (v : Int32) : x_qv (xs_qs σ v) = x_qv σ := rfl
theorem xr_qv_tk (σ : SX) (v : Int32) : x_qv (xs_tk σ v) = x_qv σ := rfl
theorem xr_qv_fk (σ : SX) (v : Nat → Int32) : x_qv (xs_fk σ v) = x_qv σ := rfl
theorem xr_qv_fn (σ : SX) (v : Nat → Int32) : x_qv (xs_fn σ v) = x_qv σ := rfl
theorem xr_qv_fv (σ : SX) (v : Nat → Int64) : x_qv (xs_fv σ v) = x_qv σ := rfl
theorem xr_qv_fl (σ : SX) (v : Int32) : x_qv (xs_fl σ v) = x_qv σ := rfl
theorem xr_qv_bl (σ : SX) (v : Int32) : x_qv (xs_bl σ v) = x_qv σ := rfl
theorem xr_qv_bic (σ : SX) (v : Int32) : x_qv (xs_bic σ v) = x_qv σ := rfl
theorem xr_qv_n (σ : SX) (v : Nat) : x_qv (xs_n σ v) = x_qv σ := rfl
theorem xr_qv_tab (σ : SX) (v : Nat → HR) : x_qv (xs_tab σ v) = x_qv σ := rfl
theorem xw_qf (σ : SX) (v : Int32) : x_qf (xs_qf σ v) = v := rfl
theorem xr_qf_bs (σ : SX) (v : Nat → Int64) : x_qf (xs_bs σ v) = x_qf σ := rfl
theorem xr_qf_bc (σ : SX) (v : Nat → Int32) : x_qf (xs_bc σ v) = x_qf σ := rfl
theorem xr_qf_hd (σ : SX) (v : Nat → Option Nat) : x_qf (xs_hd σ v) = x_qf σ := rfl
theorem xr_qf_told (σ : SX) (v : Int32) : x_qf (xs_told σ v) = x_qf σ := rfl
theorem xr_qf_qk (σ : SX) (v : Nat → Int32) : x_qf (xs_qk σ v) = x_qf σ := rfl
theorem xr_qf_qv (σ : SX) (v : Nat → Int64) : x_qf (xs_qv σ v) = x_qf σ := rfl
theorem xr_qf_qs (σ : SX) (v : Int32) : x_qf (xs_qs σ v) = x_qf σ := rfl
theorem xr_qf_tk (σ : SX) (v : Int32) : x_qf (xs_tk σ v) = x_qf σ := rfl
theorem xr_qf_fk (σ : SX) (v : Nat → Int32) : x_qf (xs_fk σ v) = x_qf σ := rfl
theorem xr_qf_fn (σ : SX) (v : Nat → Int32) : x_qf (xs_fn σ v) = x_qf σ := rfl
theorem xr_qf_fv (σ : SX) (v : Nat → Int64) : x_qf (xs_fv σ v) = x_qf σ := rfl
theorem xr_qf_fl (σ : SX) (v : Int32) : x_qf (xs_fl σ v) = x_qf σ := rfl
theorem xr_qf_bl (σ : SX) (v : Int32) : x_qf (xs_bl σ v) = x_qf σ := rfl
theorem xr_qf_bic (σ : SX) (v : Int32) : x_qf (xs_bic σ v) = x_qf σ := rfl
theorem xr_qf_n (σ : SX) (v : Nat) : x_qf (xs_n σ v) = x_qf σ := rfl
theorem xr_qf_tab (σ : SX) (v : Nat → HR) : x_qf (xs_tab σ v) = x_qf σ := rfl
theorem xw_qs (σ : SX) (v : Int32) : x_qs (xs_qs σ v) = v := rfl
theorem xr_qs_bs (σ : SX) (v : Nat → Int64) : x_qs (xs_bs σ v) = x_qs σ := rfl
theorem xr_qs_bc (σ : SX) (v : Nat → Int32) : x_qs (xs_bc σ v) = x_qs σ := rfl
theorem xr_qs_hd (σ : SX) (v : Nat → Option Nat) : x_qs (xs_hd σ v) = x_qs σ := rfl
theorem xr_qs_told (σ : SX) (v : Int32) : x_qs (xs_told σ v) = x_qs σ := rfl
theorem xr_qs_qk (σ : SX) (v : Nat → Int32) : x_qs (xs_qk σ v) = x_qs σ := rfl
theorem xr_qs_qv (σ : SX) (v : Nat → Int64) : x_qs (xs_qv σ v) = x_qs σ := rfl
theorem xr_qs_qf (σ : SX) (v : Int32) : x_qs (xs_qf σ v) = x_qs σ := rfl
theorem xr_qs_tk (σ : SX) (v : Int32) : x_qs (xs_tk σ v) = x_qs σ := rfl
theorem xr_qs_fk (σ : SX) (v : Nat → Int32) : x_qs (xs_fk σ v) = x_qs σ := rfl
theorem xr_qs_fn (σ : SX) (v : Nat → Int32) : x_qs (xs_fn σ v) = x_qs σ := rfl
theorem xr_qs_fv (σ : SX) (v : Nat → Int64) : x_qs (xs_fv σ v) = x_qs σ := rfl
theorem xr_qs_fl (σ : SX) (v : Int32) : x_qs (xs_fl σ v) = x_qs σ := rfl
theorem xr_qs_bl (σ : SX) (v : Int32) : x_qs (xs_bl σ v) = x_qs σ := rfl
theorem xr_qs_bic (σ : SX) (v : Int32) : x_qs (xs_bic σ v) = x_qs σ := rfl
theorem xr_qs_n (σ : SX) (v : Nat) : x_qs (xs_n σ v) = x_qs σ := rfl
theorem xr_qs_tab (σ : SX) (v : Nat → HR) : x_qs (xs_tab σ v) = x_qs σ := rfl
theorem xw_tk (σ : SX) (v : Int32) : x_tk (xs_tk σ v) = v := rfl
theorem xr_tk_bs (σ : SX) (v : Nat → Int64) : x_tk (xs_bs σ v) = x_tk σ := rfl
theorem xr_tk_bc (σ : SX) (v : Nat → Int32) : x_tk (xs_bc σ v) = x_tk σ := rfl
theorem xr_tk_hd (σ : SX) (v : Nat → Option Nat) : x_tk (xs_hd σ v) = x_tk σ := rfl
theorem xr_tk_told (σ : SX) (v : Int32) : x_tk (xs_told σ v) = x_tk σ := rfl
theorem xr_tk_qk (σ : SX) (v : Nat → Int32) : x_tk (xs_qk σ v) = x_tk σ := rfl
theorem xr_tk_qv (σ : SX) (v : Nat → Int64) : x_tk (xs_qv σ v) = x_tk σ := rfl
theorem xr_tk_qf (σ : SX) (v : Int32) : x_tk (xs_qf σ v) = x_tk σ := rfl
theorem xr_tk_qs (σ : SX) (v : Int32) : x_tk (xs_qs σ v) = x_tk σ := rfl
theorem xr_tk_fk (σ : SX) (v : Nat → Int32) : x_tk (xs_fk σ v) = x_tk σ := rfl
theorem xr_tk_fn (σ : SX) (v : Nat → Int32) : x_tk (xs_fn σ v) = x_tk σ := rfl
theorem xr_tk_fv (σ : SX) (v : Nat → Int64) : x_tk (xs_fv σ v) = x_tk σ := rfl
theorem xr_tk_fl (σ : SX) (v : Int32) : x_tk (xs_fl σ v) = x_tk σ := rfl
theorem xr_tk_bl (σ : SX) (v : Int32) : x_tk (xs_bl σ v) = x_tk σ := rfl
theorem xr_tk_bic (σ : SX) (v : Int32) : x_tk (xs_bic σ v) = x_tk σ := rfl
theorem xr_tk_n (σ : SX) (v : Nat) : x_tk (xs_n σ v) = x_tk σ := rfl
theorem xr_tk_tab (σ : SX) (v : Nat → HR) : x_tk (xs_tab σ v) = x_tk σ := rfl
theorem xw_fk (σ : SX) (v : Nat → Int32) : x_fk (xs_fk σ v) = v := rfl
theorem xr_fk_bs (σ : SX) (v : Nat → Int64) : x_fk (xs_bs σ v) = x_fk σ := rfl
theorem xr_fk_bc (σ : SX) (v : Nat → Int32) : x_fk (xs_bc σ v) = x_fk σ := rfl
theorem xr_fk_hd (σ : SX) (v : Nat → Option Nat) : x_fk (xs_hd σ v) = x_fk σ := rfl
theorem xr_fk_told (σ : SX) (v : Int32) : x_fk (xs_told σ v) = x_fk σ := rfl
theorem xr_fk_qk (σ : SX) (v : Nat → Int32) : x_fk (xs_qk σ v) = x_fk σ := rfl
theorem xr_fk_qv (σ : SX) (v : Nat → Int64) : x_fk (xs_qv σ v) = x_fk σ := rfl
theorem xr_fk_qf (σ : SX) (v : Int32) : x_fk (xs_qf σ v) = x_fk σ := rfl
theorem xr_fk_qs (σ : SX) (v : Int32) : x_fk (xs_qs σ v) = x_fk σ := rfl
theorem xr_fk_tk (σ : SX) (v : Int32) : x_fk (xs_tk σ v) = x_fk σ := rfl
theorem xr_fk_fn (σ : SX) (v : Nat → Int32) : x_fk (xs_fn σ v) = x_fk σ := rfl
theorem xr_fk_fv (σ : SX) (v : Nat → Int64) : x_fk (xs_fv σ v) = x_fk σ := rfl
theorem xr_fk_fl (σ : SX) (v : Int32) : x_fk (xs_fl σ v) = x_fk σ := rfl
theorem xr_fk_bl (σ : SX) (v : Int32) : x_fk (xs_bl σ v) = x_fk σ := rfl
theorem xr_fk_bic (σ : SX) (v : Int32) : x_fk (xs_bic σ v) = x_fk σ := rfl
theorem xr_fk_n (σ : SX) (v : Nat) : x_fk (xs_n σ v) = x_fk σ := rfl
theorem xr_fk_tab (σ : SX) (v : Nat → HR) : x_fk (xs_tab σ v) = x_fk σ := rfl
theorem xw_fn (σ : SX) (v : Nat → Int32) : x_fn (xs_fn σ v) = v := rfl
theorem xr_fn_bs (σ : SX) (v : Nat → Int64) : x_fn (xs_bs σ v) = x_fn σ := rfl
theorem xr_fn_bc (σ : SX) (v : Nat → Int32) : x_fn (xs_bc σ v) = x_fn σ := rfl
theorem xr_fn_hd (σ : SX) (v : Nat → Option Nat) : x_fn (xs_hd σ v) = x_fn σ := rfl
theorem xr_fn_told (σ : SX) (v : Int32) : x_fn (xs_told σ v) = x_fn σ := rfl
theorem xr_fn_qk (σ : SX) (v : Nat → Int32) : x_fn (xs_qk σ v) = x_fn σ := rfl
theorem xr_fn_qv (σ : SX) (v : Nat → Int64) : x_fn (xs_qv σ v) = x_fn σ := rfl
theorem xr_fn_qf (σ : SX) (v : Int32) : x_fn (xs_qf σ v) = x_fn σ := rfl
theorem xr_fn_qs (σ : SX) (v : Int32) : x_fn (xs_qs σ v) = x_fn σ := rfl
theorem xr_fn_tk (σ : SX) (v : Int32) : x_fn (xs_tk σ v) = x_fn σ := rfl
theorem xr_fn_fk (σ : SX) (v : Nat → Int32) : x_fn (xs_fk σ v) = x_fn σ := rfl
theorem xr_fn_fv (σ : SX) (v : Nat → Int64) : x_fn (xs_fv σ v) = x_fn σ := rfl
theorem xr_fn_fl (σ : SX) (v : Int32) : x_fn (xs_fl σ v) = x_fn σ := rfl
theorem xr_fn_bl (σ : SX) (v : Int32) : x_fn (xs_bl σ v) = x_fn σ := rfl
theorem xr_fn_bic (σ : SX) (v : Int32) : x_fn (xs_bic σ v) = x_fn σ := rfl
theorem xr_fn_n (σ : SX) (v : Nat) : x_fn (xs_n σ v) = x_fn σ := rfl
theorem xr_fn_tab (σ : SX) (v : Nat → HR) : x_fn (xs_tab σ v) = x_fn σ := rfl
theorem xw_fv (σ : SX) (v : Nat → Int64) : x_fv (xs_fv σ v) = v := rfl
theorem xr_fv_bs (σ : SX) (v : Nat → Int64) : x_fv (xs_bs σ v) = x_fv σ := rfl
theorem xr_fv_bc (σ : SX) (v : Nat → Int32) : x_fv (xs_bc σ v) = x_fv σ := rfl
theorem xr_fv_hd (σ : SX) (v : Nat → Option Nat) : x_fv (xs_hd σ v) = x_fv σ := rfl
theorem xr_fv_told (σ : SX) (v : Int32) : x_fv (xs_told σ v) = x_fv σ := rfl
theorem xr_fv_qk (σ : SX) (v : Nat → Int32) : x_fv (xs_qk σ v) = x_fv σ := rfl
theorem xr_fv_qv (σ : SX) (v : Nat → Int64) : x_fv (xs_qv σ v) = x_fv σ := rfl
theorem xr_fv_qf (σ : SX) (v : Int32) : x_fv (xs_qf σ v) = x_fv σ := rfl
theorem xr_fv_qs (σ : SX) (v : Int32) : x_fv (xs_qs σ v) = x_fv σ := rfl
theorem xr_fv_tk (σ : SX) (v : Int32) : x_fv (xs_tk σ v) = x_fv σ := rfl
theorem xr_fv_fk (σ : SX) (v : Nat → Int32) : x_fv (xs_fk σ v) = x_fv σ := rfl
theorem xr_fv_fn (σ : SX) (v : Nat → Int32) : x_fv (xs_fn σ v) = x_fv σ := rfl
theorem xr_fv_fl (σ : SX) (v : Int32) : x_fv (xs_fl σ v) = x_fv σ := rfl
theorem xr_fv_bl (σ : SX) (v : Int32) : x_fv (xs_bl σ v) = x_fv σ := rfl
theorem xr_fv_bic (σ : SX) (v : Int32) : x_fv (xs_bic σ v) = x_fv σ := rfl
theorem xr_fv_n (σ : SX) (v : Nat) : x_fv (xs_n σ v) = x_fv σ := rfl
theorem xr_fv_tab (σ : SX) (v : Nat → HR) : x_fv (xs_tab σ v) = x_fv σ := rfl
theorem xw_fl (σ : SX) (v : Int32) : x_fl (xs_fl σ v) = v := rfl
theorem xr_fl_bs (σ : SX) (v : Nat → Int64) : x_fl (xs_bs σ v) = x_fl σ := rfl
theorem xr_fl_bc (σ : SX) (v : Nat → Int32) : x_fl (xs_bc σ v) = x_fl σ := rfl
theorem xr_fl_hd (σ : SX) (v : Nat → Option Nat) : x_fl (xs_hd σ v) = x_fl σ := rfl
theorem xr_fl_told (σ : SX) (v : Int32) : x_fl (xs_told σ v) = x_fl σ := rfl
theorem xr_fl_qk (σ : SX) (v : Nat → Int32) : x_fl (xs_qk σ v) = x_fl σ := rfl
theorem xr_fl_qv (σ : SX) (v : Nat → Int64) : x_fl (xs_qv σ v) = x_fl σ := rfl
theorem xr_fl_qf (σ : SX) (v : Int32) : x_fl (xs_qf σ v) = x_fl σ := rfl
theorem xr_fl_qs (σ : SX) (v : Int32) : x_fl (xs_qs σ v) = x_fl σ := rfl
theorem xr_fl_tk (σ : SX) (v : Int32) : x_fl (xs_tk σ v) = x_fl σ := rfl
theorem xr_fl_fk (σ : SX) (v : Nat → Int32) : x_fl (xs_fk σ v) = x_fl σ := rfl
theorem xr_fl_fn (σ : SX) (v : Nat → Int32) : x_fl (xs_fn σ v) = x_fl σ := rfl
theorem xr_fl_fv (σ : SX) (v : Nat → Int64) : x_fl (xs_fv σ v) = x_fl σ := rfl
theorem xr_fl_bl (σ : SX) (v : Int32) : x_fl (xs_bl σ v) = x_fl σ := rfl
theorem xr_fl_bic (σ : SX) (v : Int32) : x_fl (xs_bic σ v) = x_fl σ := rfl
theorem xr_fl_n (σ : SX) (v : Nat) : x_fl (xs_n σ v) = x_fl σ := rfl
theorem xr_fl_tab (σ : SX) (v : Nat → HR) : x_fl (xs_tab σ v) = x_fl σ := rfl
theorem xw_bl (σ : SX) (v : Int32) : x_bl (xs_bl σ v) = v := rfl
theorem xr_bl_bs (σ : SX) (v : Nat → Int64) : x_bl (xs_bs σ v) = x_bl σ := rfl
theorem xr_bl_bc (σ : SX) (v : Nat → Int32) : x_bl (xs_bc σ v) = x_bl σ := rfl
theorem xr_bl_hd (σ : SX) (v : Nat → Option Nat) : x_bl (xs_hd σ v) = x_bl σ := rfl
theorem xr_bl_told (σ : SX) (v : Int32) : x_bl (xs_told σ v) = x_bl σ := rfl
theorem xr_bl_qk (σ : SX) (v : Nat → Int32) : x_bl (xs_qk σ v) = x_bl σ := rfl
theorem xr_bl_qv (σ : SX) (v : Nat → Int64) : x_bl (xs_qv σ v) = x_bl σ := rfl
theorem xr_bl_qf (σ : SX) (v : Int32) : x_bl (xs_qf σ v) = x_bl σ := rfl
theorem xr_bl_qs (σ : SX) (v : Int32) : x_bl (xs_qs σ v) = x_bl σ := rfl
theorem xr_bl_tk (σ : SX) (v : Int32) : x_bl (xs_tk σ v) = x_bl σ := rfl
theorem xr_bl_fk (σ : SX) (v : Nat → Int32) : x_bl (xs_fk σ v) = x_bl σ := rfl
theorem xr_bl_fn (σ : SX) (v : Nat → Int32) : x_bl (xs_fn σ v) = x_bl σ := rfl
theorem xr_bl_fv (σ : SX) (v : Nat → Int64) : x_bl (xs_fv σ v) = x_bl σ := rfl
theorem xr_bl_fl (σ : SX) (v : Int32) : x_bl (xs_fl σ v) = x_bl σ := rfl
theorem xr_bl_bic (σ : SX) (v : Int32) : x_bl (xs_bic σ v) = x_bl σ := rfl
theorem xr_bl_n (σ : SX) (v : Nat) : x_bl (xs_n σ v) = x_bl σ := rfl
theorem xr_bl_tab (σ : SX) (v : Nat → HR) : x_bl (xs_tab σ v) = x_bl σ := rfl
theorem xw_bic (σ : SX) (v : Int32) : x_bic (xs_bic σ v) = v := rfl
theorem xr_bic_bs (σ : SX) (v : Nat → Int64) : x_bic (xs_bs σ v) = x_bic σ := rfl
theorem xr_bic_bc (σ : SX) (v : Nat → Int32) : x_bic (xs_bc σ v) = x_bic σ := rfl
theorem xr_bic_hd (σ : SX) (v : Nat → Option Nat) : x_bic (xs_hd σ v) = x_bic σ := rfl
theorem xr_bic_told (σ : SX) (v : Int32) : x_bic (xs_told σ v) = x_bic σ := rfl
theorem xr_bic_qk (σ : SX) (v : Nat → Int32) : x_bic (xs_qk σ v) = x_bic σ := rfl
theorem xr_bic_qv (σ : SX) (v : Nat → Int64) : x_bic (xs_qv σ v) = x_bic σ := rfl
theorem xr_bic_qf (σ : SX) (v : Int32) : x_bic (xs_qf σ v) = x_bic σ := rfl
theorem xr_bic_qs (σ : SX) (v : Int32) : x_bic (xs_qs σ v) = x_bic σ := rfl
theorem xr_bic_tk (σ : SX) (v : Int32) : x_bic (xs_tk σ v) = x_bic σ := rfl
theorem xr_bic_fk (σ : SX) (v : Nat → Int32) : x_bic (xs_fk σ v) = x_bic σ := rfl
theorem xr_bic_fn (σ : SX) (v : Nat → Int32) : x_bic (xs_fn σ v) = x_bic σ := rfl
theorem xr_bic_fv (σ : SX) (v : Nat → Int64) : x_bic (xs_fv σ v) = x_bic σ := rfl
theorem xr_bic_fl (σ : SX) (v : Int32) : x_bic (xs_fl σ v) = x_bic σ := rfl
theorem xr_bic_bl (σ : SX) (v : Int32) : x_bic (xs_bl σ v) = x_bic σ := rfl
theorem xr_bic_n (σ : SX) (v : Nat) : x_bic (xs_n σ v) = x_bic σ := rfl
theorem xr_bic_tab (σ : SX) (v : Nat → HR) : x_bic (xs_tab σ v) = x_bic σ := rfl
theorem xw_n (σ : SX) (v : Nat) : x_n (xs_n σ v) = v := rfl
theorem xr_n_bs (σ : SX) (v : Nat → Int64) : x_n (xs_bs σ v) = x_n σ := rfl
theorem xr_n_bc (σ : SX) (v : Nat → Int32) : x_n (xs_bc σ v) = x_n σ := rfl
theorem xr_n_hd (σ : SX) (v : Nat → Option Nat) : x_n (xs_hd σ v) = x_n σ := rfl
theorem xr_n_told (σ : SX) (v : Int32) : x_n (xs_told σ v) = x_n σ := rfl
theorem xr_n_qk (σ : SX) (v : Nat → Int32) : x_n (xs_qk σ v) = x_n σ := rfl
theorem xr_n_qv (σ : SX) (v : Nat → Int64) : x_n (xs_qv σ v) = x_n σ := rfl
theorem xr_n_qf (σ : SX) (v : Int32) : x_n (xs_qf σ v) = x_n σ := rfl
theorem xr_n_qs (σ : SX) (v : Int32) : x_n (xs_qs σ v) = x_n σ := rfl
theorem xr_n_tk (σ : SX) (v : Int32) : x_n (xs_tk σ v) = x_n σ := rfl
theorem xr_n_fk (σ : SX) (v : Nat → Int32) : x_n (xs_fk σ v) = x_n σ := rfl
theorem xr_n_fn (σ : SX) (v : Nat → Int32) : x_n (xs_fn σ v) = x_n σ := rfl
theorem xr_n_fv (σ : SX) (v : Nat → Int64) : x_n (xs_fv σ v) = x_n σ := rfl
theorem xr_n_fl (σ : SX) (v : Int32) : x_n (xs_fl σ v) = x_n σ := rfl
theorem xr_n_bl (σ : SX) (v : Int32) : x_n (xs_bl σ v) = x_n σ := rfl
theorem xr_n_bic (σ : SX) (v : Int32) : x_n (xs_bic σ v) = x_n σ := rfl
theorem xr_n_tab (σ : SX) (v : Nat → HR) : x_n (xs_tab σ v) = x_n σ := rfl
theorem xw_tab (σ : SX) (v : Nat → HR) : x_tab (xs_tab σ v) = v := rfl
theorem xr_tab_bs (σ : SX) (v : Nat → Int64) : x_tab (xs_bs σ v) = x_tab σ := rfl
theorem xr_tab_bc (σ : SX) (v : Nat → Int32) : x_tab (xs_bc σ v) = x_tab σ := rfl
theorem xr_tab_hd (σ : SX) (v : Nat → Option Nat) : x_tab (xs_hd σ v) = x_tab σ := rfl
theorem xr_tab_told (σ : SX) (v : Int32) : x_tab (xs_told σ v) = x_tab σ := rfl
theorem xr_tab_qk (σ : SX) (v : Nat → Int32) : x_tab (xs_qk σ v) = x_tab σ := rfl
theorem xr_tab_qv (σ : SX) (v : Nat → Int64) : x_tab (xs_qv σ v) = x_tab σ := rfl
theorem xr_tab_qf (σ : SX) (v : Int32) : x_tab (xs_qf σ v) = x_tab σ := rfl
theorem xr_tab_qs (σ : SX) (v : Int32) : x_tab (xs_qs σ v) = x_tab σ := rfl
theorem xr_tab_tk (σ : SX) (v : Int32) : x_tab (xs_tk σ v) = x_tab σ := rfl
theorem xr_tab_fk (σ : SX) (v : Nat → Int32) : x_tab (xs_fk σ v) = x_tab σ := rfl
theorem xr_tab_fn (σ : SX) (v : Nat → Int32) : x_tab (xs_fn σ v) = x_tab σ := rfl
theorem xr_tab_fv (σ : SX) (v : Nat → Int64) : x_tab (xs_fv σ v) = x_tab σ := rfl
theorem xr_tab_fl (σ : SX) (v : Int32) : x_tab (xs_fl σ v) = x_tab σ := rfl
theorem xr_tab_bl (σ : SX) (v : Int32) : x_tab (xs_bl σ v) = x_tab σ := rfl
theorem xr_tab_bic (σ : SX) (v : Int32) : x_tab (xs_bic σ v) = x_tab σ := rfl
theorem xr_tab_n (σ : SX) (v : Nat) : x_tab (xs_n σ v) = x_tab σ := rfl
noncomputable def xFs (O : Nat → Nat) (σ : SX) : List Value := [.ref (O 1), .ref (O 2), .ref (O 3), .int (x_told σ), .ref (O 4), .ref (O 5), .int (x_qf σ), .int (x_qs σ), .int (x_tk σ), .ref (O 6), .ref (O 7), .ref (O 8), .int (x_fl σ), .int (x_bl σ), .int (x_bic σ)]
noncomputable def xT (K : Nat → ClassId) : List (ClassId × FieldType) := [(K 1, .long), (K 2, .int), (K 3, .object "MailRoom$Handler"), (K 4, .int), (K 5, .long), (K 6, .int), (K 7, .int), (K 8, .long)]
noncomputable def xW (O : Nat → Nat) (K : Nat → ClassId) (ad : Nat → Nat) (σ : SX) : va_W := [(O 0, .inr (1, xFs O σ)), (O 1, .inl (K 1, 6, .inr (.inl (x_bs σ)))), (O 2, .inl (K 2, 6, .inl (x_bc σ))), (O 3, .inl (K 3, 10, .inr (.inr (.inr (.inr (fun k => (x_hd σ k).map ad)))))), (O 4, .inl (K 4, 40, .inl (x_qk σ))), (O 5, .inl (K 5, 40, .inr (.inl (x_qv σ)))), (O 6, .inl (K 6, 30, .inl (x_fk σ))), (O 7, .inl (K 7, 30, .inl (x_fn σ))), (O 8, .inl (K 8, 30, .inr (.inl (x_fv σ))))] ++ xPl ad (x_n σ) (x_tab σ)
theorem xPl_at {ad : Nat → Nat} {n : Nat} {tab : Nat → HR} {j : Nat} (hj : j < n) : (xPl ad n tab)[j]? = some (ad j, .inr (0, hFs ad (tab j))) := by
  simp [xPl, hj]
theorem xW_at {O : Nat → Nat} {K : Nat → ClassId} {ad : Nat → Nat} {σ : SX} {j : Nat} (hj : j < x_n σ) : (xW O K ad σ)[9 + j]? = some (ad j, .inr (0, hFs ad (x_tab σ j))) := by
  unfold xW
  rw [List.getElem?_append_right (by simp)]
  simpa using xPl_at (tab := x_tab σ) hj
theorem xPl_set {ad : Nat → Nat} {n : Nat} {tab : Nat → HR} {j : Nat} {h : HR} : (xPl ad n tab).set j (ad j, .inr (0, hFs ad h)) = xPl ad n (va_up tab j h) := by
  apply List.ext_getElem?
  intro i
  rw [List.getElem?_set]
  by_cases hij : j = i
  · subst hij
    by_cases hj : j < n
    · simp [xPl, hj, va_up]
    · simp [xPl, hj]
  · rw [if_neg hij]
    by_cases hi : i < n
    · simp [xPl, hi, va_up, Ne.symm hij]
    · simp [xPl, hi]
theorem xW_setH {O : Nat → Nat} {K : Nat → ClassId} {ad : Nat → Nat} {σ : SX} {j : Nat} {h : HR} : (xW O K ad σ).set (9 + j) (ad j, .inr (0, hFs ad h)) = xW O K ad (xs_tab σ (va_up (x_tab σ) j h)) := by
  show _ = _ ++ xPl ad (x_n σ) (va_up (x_tab σ) j h)
  unfold xW
  rw [List.set_append_right _ _ (by simp), ← xPl_set]
  have e : ∀ k : Nat, 9 + j - 9 = j := fun _ => by omega
  simp only [List.length_cons, List.length_nil]
  rw [show 9 + j - (0 + 1 + 1 + 1 + 1 + 1 + 1 + 1 + 1 + 1) = j by omega]
  rfl
theorem xW_setA {O : Nat → Nat} {K : Nat → ClassId} {ad : Nat → Nat} {σ : SX} {i : Nat} {r : Option Nat} : (xW O K ad σ).set 3 (O 3, .inl (K 3, 10, .inr (.inr (.inr (.inr (va_up (fun k => (x_hd σ k).map ad) i (r.map ad))))))) = xW O K ad (xs_hd σ (va_up (x_hd σ) i r)) := by
  have e : va_up (fun k => (x_hd σ k).map ad) i (r.map ad) = fun k => (va_up (x_hd σ) i r k).map ad := by
    funext k
    by_cases h : k = i
    · simp [va_up, h]
    · simp [va_up, h]
  rw [e]
  rfl
theorem tx0 : ∀ k, (TX0 k).1 = "MailRoom$Handler" := fun k => by
  unfold TX0
  split <;> rfl
section XR
variable {p : Program} {l : Launch} {e : Env} {R : Room} {s : State} {m : MethodId} {args : Array Value} {below : List Frame} {meth : Method} {c : Code} {H : Heap} {locs : List Loc} {cells slots : Nat} {Q : State → Prop}
variable {cc : ByteArray} {pc : Nat} {ls : Array Slot} {rest : List Value} {D : va_G} {A : Nat → Prop} {tys : List (ClassId × FieldType)} {H0 : Heap}
variable {O : Nat → Nat} {K : Nat → ClassId} {ad : Nat → Nat} {σ : SX} {j index : Nat} {Ts : List Cond} {v : Value} {x i : Int32} {r : Option Nat}
theorem x_getH (hx : p.tables.exec = Jvm.exec) (hb : c.code = cc) (hts : ∀ w ∈ Ts, w.before args s = true) (hin : ∀ w ∈ wsX00, w ∈ Ts) (hown : s.vm.findClass RX1 = some m.cls) (hK : va_K D vwCl tys s) (hP : va_P D vwCl (xW O K ad σ) H) {T : Nat → HR} (hT : x_tab σ = T) (hj : j < x_n σ) (k : Nat) (hk : k < 8) (hlink : (Cond.fieldLink RX1 index "MailRoom$Handler" (TX0 k).2.1 (TX0 k).2.2.1).before args s = true) (hv : (hFs ad (T j))[k]? = some v) (hdg : decode cc pc = .ok (.getfield index, 3))
    (kk : W p l e R s m args below meth c H locs cells slots Q (F0 m (pc + 3) ls (v :: rest))) : W p l e R s m args below meth c H locs cells slots Q (F0 m pc ls (.ref (ad j) :: rest)) := by
  subst hT
  exact va_get (ci := 0) (C := RX0) (T := TX0) (N := 8) hx hb hts hin hown hK hP (9 + j) (xW_at hj) rfl k hk hlink (fun y h => by rw [← tx0 k]; exact h) hv hdg kk
theorem x_putH (hx : p.tables.exec = Jvm.exec) (hb : c.code = cc) (hts : ∀ w ∈ Ts, w.before args s = true) (hin : ∀ w ∈ wsX00, w ∈ Ts) (hown : s.vm.findClass RX1 = some m.cls) (hK : va_K D vwCl tys s) (hP : va_P D vwCl (xW O K ad σ) H) (hD : va_D A (xW O K ad σ)) (hS : va_S A H0 H locs) (hj : j < x_n σ) (hlink : (Cond.fieldLink RX1 index "MailRoom$Handler" "begun" "I").before args s = true) (hdg : decode cc pc = .ok (.putfield index, 3))
    (kk : ∀ (H1 : Heap) (locs1 : List Loc), va_P D vwCl (xW O K ad (xs_tab σ (va_up (x_tab σ) j (hs_begun (x_tab σ j) x)))) H1 → va_D A (xW O K ad (xs_tab σ (va_up (x_tab σ) j (hs_begun (x_tab σ j) x)))) → va_S A H0 H1 locs1 → W p l e R s m args below meth c H1 locs1 cells slots Q (F0 m (pc + 3) ls rest)) : W p l e R s m args below meth c H locs cells slots Q (F0 m pc ls (.int x :: .ref (ad j) :: rest)) := by
  refine va_put (ci := 0) (C := RX0) (T := TX0) (N := 8) (ty := .int) hx hb hts hin tyX0 tyX0_ok nmX0 hown hK hP hD hS (9 + j) (xW_at hj) rfl 7 (by decide) hlink (fun _ h => h) rfl rfl rfl rfl (Nat.le_of_ble_eq_true rfl) hdg (fun H1 locs1 hP1 hD1 hS1 => ?_)
  have e : (xW O K ad σ).set (9 + j) (ad j, .inr (0, (hFs ad (x_tab σ j)).set 7 (.int x))) = xW O K ad (xs_tab σ (va_up (x_tab σ) j (hs_begun (x_tab σ j) x))) := xW_setH (h := hs_begun (x_tab σ j) x)
  rw [e] at hP1 hD1
  exact kk H1 locs1 hP1 hD1 hS1
theorem x_aldH (hx : p.tables.exec = Jvm.exec) (hb : c.code = cc) (hK : va_K D vwCl (xT K) s) (hP : va_P D vwCl (xW O K ad σ) H) (hin : vp_in i 10) (hdg : decode cc pc = .ok (.aaload, 1))
    (kk : W p l e R s m args below meth c H locs cells slots Q (F0 m (pc + 1) ls (va_re ad (x_hd σ i.toNatClampNeg) :: rest))) : W p l e R s m args below meth c H locs cells slots Q (F0 m pc ls (.int i :: .ref (O 3) :: rest)) :=
  va_aldq (f := fun k => (x_hd σ k).map ad) (C := "MailRoom$Handler") hx hb hK hP 3 2 rfl rfl hin hdg kk
theorem x_astH (hx : p.tables.exec = Jvm.exec) (hb : c.code = cc) (hK : va_K D vwCl (xT K) s) (hP : va_P D vwCl (xW O K ad σ) H) (hD : va_D A (xW O K ad σ)) (hS : va_S A H0 H locs) (hr : ∀ j, r = some j → j < x_n σ) (hin : vp_in i 10) (hdg : decode cc pc = .ok (.aastore, 1))
    (kk : ∀ (H1 : Heap) (locs1 : List Loc), va_P D vwCl (xW O K ad (xs_hd σ (va_up (x_hd σ) i.toNatClampNeg r))) H1 → va_D A (xW O K ad (xs_hd σ (va_up (x_hd σ) i.toNatClampNeg r))) → va_S A H0 H1 locs1 → W p l e R s m args below meth c H1 locs1 cells slots Q (F0 m (pc + 1) ls rest)) : W p l e R s m args below meth c H locs cells slots Q (F0 m pc ls (va_re ad r :: .int i :: .ref (O 3) :: rest)) := by
  cases r with
  | none =>
    refine va_astqN (f := fun k => (x_hd σ k).map ad) (C := "MailRoom$Handler") hx hb hK hP hD hS 3 2 rfl rfl hin hdg (fun H1 locs1 hP1 hD1 hS1 => ?_)
    have e := xW_setA (O := O) (K := K) (ad := ad) (σ := σ) (i := i.toNatClampNeg) (r := none)
    rw [← e] at kk
    exact kk H1 locs1 hP1 hD1 hS1
  | some j =>
    refine va_astq (f := fun k => (x_hd σ k).map ad) (r := (RX0, TX0, 8)) hx hb hK hP hD hS 3 2 (9 + j) 0 rfl rfl (xW_at (hr j rfl)) rfl hin hdg (fun H1 locs1 hP1 hD1 hS1 => ?_)
    have e := xW_setA (O := O) (K := K) (ad := ad) (σ := σ) (i := i.toNatClampNeg) (r := some j)
    rw [← e] at kk
    exact kk H1 locs1 hP1 hD1 hS1
end XR
theorem z_out {x : Int32} (hi : Nat) (hh : hi < 1000) (h : ∀ k, k ≤ hi → ¬ x = nI k) : x.toInt < 0 ∨ (hi : Int) < x.toInt := by
  rcases Decidable.em (x.toInt < 0) with h0 | h0
  · exact Or.inl h0
  · rcases Decidable.em ((hi : Int) < x.toInt) with h1 | h1
    · exact Or.inr h1
    · exact absurd (Int32.toInt_inj.mp (by rw [nI_toInt (by omega)]; omega)) (h x.toInt.toNat (by omega))
theorem z_in {x : Int32} {M : Int32} {n : Nat} (hM : M = nI n) (hn : n < 2 ^ 31) (h0 : ¬ x < 0) (h1 : ¬ M ≤ x) : vp_in x n := by
  subst hM
  rcases pk_ix x hn with h | h | ⟨j, hj, rfl⟩
  · exact absurd h h0
  · exact absurd h h1
  · exact vp_in_nI hj hn
theorem z_eta {α β : Type} (x : α × β) : x = (x.1, x.2) := rfl
theorem z_ltE {a b j : Nat} (h : a = b) (hj : j < b) : j < a := by rw [h]; exact hj
section XROWS
variable {p : Program} {l : Launch} {e : Env} {R : Room} {s : State} {m : MethodId} {args : Array Value} {below : List Frame} {meth : Method} {c : Code} {H : Heap} {locs : List Loc} {cells slots : Nat} {Q : State → Prop}
variable {cc : ByteArray} {pc : Nat} {ls : Array Slot} {rest : List Value} {D : va_G} {A : Nat → Prop} {H0 : Heap} {O : Nat → Nat} {K : Nat → ClassId} {ad : Nat → Nat} {σ : SX} {index : Nat} {Ts : List Cond} {i x : Int32}
theorem x_ga_1 (hx : p.tables.exec = Jvm.exec) (hb : c.code = cc) (hts : ∀ w ∈ Ts, w.before args s = true) (hin : ∀ w ∈ wsX10, w ∈ Ts) (hown : s.vm.findClass RX1 = some m.cls) (hK : va_K D vwCl (xT K) s) (hP : va_P D vwCl (xW O K ad σ) H) (hlink : (Cond.fieldLink RX1 index "MailRoom" "boxSums" "[J").before args s = true) (hdg : decode cc pc = .ok (.getfield index, 3)) (kk : W p l e R s m args below meth c H locs cells slots Q (F0 m (pc + 3) ls (.ref (O 1) :: rest))) : W p l e R s m args below meth c H locs cells slots Q (F0 m pc ls (.ref (O 0) :: rest)) :=
  va_get (ci := 1) (C := RX1) (T := TX1) (N := 15) hx hb hts hin hown hK hP 0 rfl rfl 0 (by decide) hlink (fun _ h9 => h9) rfl hdg kk
theorem x_ga_2 (hx : p.tables.exec = Jvm.exec) (hb : c.code = cc) (hts : ∀ w ∈ Ts, w.before args s = true) (hin : ∀ w ∈ wsX10, w ∈ Ts) (hown : s.vm.findClass RX1 = some m.cls) (hK : va_K D vwCl (xT K) s) (hP : va_P D vwCl (xW O K ad σ) H) (hlink : (Cond.fieldLink RX1 index "MailRoom" "boxCounts" "[I").before args s = true) (hdg : decode cc pc = .ok (.getfield index, 3)) (kk : W p l e R s m args below meth c H locs cells slots Q (F0 m (pc + 3) ls (.ref (O 2) :: rest))) : W p l e R s m args below meth c H locs cells slots Q (F0 m pc ls (.ref (O 0) :: rest)) :=
  va_get (ci := 1) (C := RX1) (T := TX1) (N := 15) hx hb hts hin hown hK hP 0 rfl rfl 1 (by decide) hlink (fun _ h9 => h9) rfl hdg kk
theorem x_ga_3 (hx : p.tables.exec = Jvm.exec) (hb : c.code = cc) (hts : ∀ w ∈ Ts, w.before args s = true) (hin : ∀ w ∈ wsX10, w ∈ Ts) (hown : s.vm.findClass RX1 = some m.cls) (hK : va_K D vwCl (xT K) s) (hP : va_P D vwCl (xW O K ad σ) H) (hlink : (Cond.fieldLink RX1 index "MailRoom" "handlers" "[LMailRoom$Handler;").before args s = true) (hdg : decode cc pc = .ok (.getfield index, 3)) (kk : W p l e R s m args below meth c H locs cells slots Q (F0 m (pc + 3) ls (.ref (O 3) :: rest))) : W p l e R s m args below meth c H locs cells slots Q (F0 m pc ls (.ref (O 0) :: rest)) :=
  va_get (ci := 1) (C := RX1) (T := TX1) (N := 15) hx hb hts hin hown hK hP 0 rfl rfl 2 (by decide) hlink (fun _ h9 => h9) rfl hdg kk
theorem x_gi_told (hx : p.tables.exec = Jvm.exec) (hb : c.code = cc) (hts : ∀ w ∈ Ts, w.before args s = true) (hin : ∀ w ∈ wsX10, w ∈ Ts) (hown : s.vm.findClass RX1 = some m.cls) (hK : va_K D vwCl (xT K) s) (hP : va_P D vwCl (xW O K ad σ) H) {v : Int32} (hv : x_told σ = v) (hlink : (Cond.fieldLink RX1 index "MailRoom" "told" "I").before args s = true) (hdg : decode cc pc = .ok (.getfield index, 3)) (kk : W p l e R s m args below meth c H locs cells slots Q (F0 m (pc + 3) ls (.int v :: rest))) : W p l e R s m args below meth c H locs cells slots Q (F0 m pc ls (.ref (O 0) :: rest)) := by
  subst hv
  exact va_get (ci := 1) (C := RX1) (T := TX1) (N := 15) hx hb hts hin hown hK hP 0 rfl rfl 3 (by decide) hlink (fun _ h9 => h9) rfl hdg kk
theorem x_pi_told (hx : p.tables.exec = Jvm.exec) (hb : c.code = cc) (hts : ∀ w ∈ Ts, w.before args s = true) (hin : ∀ w ∈ wsX10, w ∈ Ts) (hown : s.vm.findClass RX1 = some m.cls) (hK : va_K D vwCl (xT K) s) (hP : va_P D vwCl (xW O K ad σ) H) (hD : va_D A (xW O K ad σ)) (hS : va_S A H0 H locs) (hlink : (Cond.fieldLink RX1 index "MailRoom" "told" "I").before args s = true) (hdg : decode cc pc = .ok (.putfield index, 3)) (kk : ∀ (H1 : Heap) (locs1 : List Loc), va_P D vwCl (xW O K ad (xs_told σ x)) H1 → va_D A (xW O K ad (xs_told σ x)) → va_S A H0 H1 locs1 → W p l e R s m args below meth c H1 locs1 cells slots Q (F0 m (pc + 3) ls rest)) : W p l e R s m args below meth c H locs cells slots Q (F0 m pc ls (.int x :: .ref (O 0) :: rest)) :=
  va_put (ci := 1) (C := RX1) (T := TX1) (N := 15) (ty := .int) hx hb hts hin tyX1 tyX1_ok nmX1 hown hK hP hD hS 0 rfl rfl 3 (by decide) hlink (fun _ h9 => h9) rfl rfl rfl rfl (Nat.le_of_ble_eq_true rfl) hdg kk
theorem x_ga_4 (hx : p.tables.exec = Jvm.exec) (hb : c.code = cc) (hts : ∀ w ∈ Ts, w.before args s = true) (hin : ∀ w ∈ wsX10, w ∈ Ts) (hown : s.vm.findClass RX1 = some m.cls) (hK : va_K D vwCl (xT K) s) (hP : va_P D vwCl (xW O K ad σ) H) (hlink : (Cond.fieldLink RX1 index "MailRoom" "queueKinds" "[I").before args s = true) (hdg : decode cc pc = .ok (.getfield index, 3)) (kk : W p l e R s m args below meth c H locs cells slots Q (F0 m (pc + 3) ls (.ref (O 4) :: rest))) : W p l e R s m args below meth c H locs cells slots Q (F0 m pc ls (.ref (O 0) :: rest)) :=
  va_get (ci := 1) (C := RX1) (T := TX1) (N := 15) hx hb hts hin hown hK hP 0 rfl rfl 4 (by decide) hlink (fun _ h9 => h9) rfl hdg kk
theorem x_ga_5 (hx : p.tables.exec = Jvm.exec) (hb : c.code = cc) (hts : ∀ w ∈ Ts, w.before args s = true) (hin : ∀ w ∈ wsX10, w ∈ Ts) (hown : s.vm.findClass RX1 = some m.cls) (hK : va_K D vwCl (xT K) s) (hP : va_P D vwCl (xW O K ad σ) H) (hlink : (Cond.fieldLink RX1 index "MailRoom" "queueValues" "[J").before args s = true) (hdg : decode cc pc = .ok (.getfield index, 3)) (kk : W p l e R s m args below meth c H locs cells slots Q (F0 m (pc + 3) ls (.ref (O 5) :: rest))) : W p l e R s m args below meth c H locs cells slots Q (F0 m pc ls (.ref (O 0) :: rest)) :=
  va_get (ci := 1) (C := RX1) (T := TX1) (N := 15) hx hb hts hin hown hK hP 0 rfl rfl 5 (by decide) hlink (fun _ h9 => h9) rfl hdg kk
theorem x_gi_qf (hx : p.tables.exec = Jvm.exec) (hb : c.code = cc) (hts : ∀ w ∈ Ts, w.before args s = true) (hin : ∀ w ∈ wsX10, w ∈ Ts) (hown : s.vm.findClass RX1 = some m.cls) (hK : va_K D vwCl (xT K) s) (hP : va_P D vwCl (xW O K ad σ) H) {v : Int32} (hv : x_qf σ = v) (hlink : (Cond.fieldLink RX1 index "MailRoom" "queueFirst" "I").before args s = true) (hdg : decode cc pc = .ok (.getfield index, 3)) (kk : W p l e R s m args below meth c H locs cells slots Q (F0 m (pc + 3) ls (.int v :: rest))) : W p l e R s m args below meth c H locs cells slots Q (F0 m pc ls (.ref (O 0) :: rest)) := by
  subst hv
  exact va_get (ci := 1) (C := RX1) (T := TX1) (N := 15) hx hb hts hin hown hK hP 0 rfl rfl 6 (by decide) hlink (fun _ h9 => h9) rfl hdg kk
theorem x_pi_qf (hx : p.tables.exec = Jvm.exec) (hb : c.code = cc) (hts : ∀ w ∈ Ts, w.before args s = true) (hin : ∀ w ∈ wsX10, w ∈ Ts) (hown : s.vm.findClass RX1 = some m.cls) (hK : va_K D vwCl (xT K) s) (hP : va_P D vwCl (xW O K ad σ) H) (hD : va_D A (xW O K ad σ)) (hS : va_S A H0 H locs) (hlink : (Cond.fieldLink RX1 index "MailRoom" "queueFirst" "I").before args s = true) (hdg : decode cc pc = .ok (.putfield index, 3)) (kk : ∀ (H1 : Heap) (locs1 : List Loc), va_P D vwCl (xW O K ad (xs_qf σ x)) H1 → va_D A (xW O K ad (xs_qf σ x)) → va_S A H0 H1 locs1 → W p l e R s m args below meth c H1 locs1 cells slots Q (F0 m (pc + 3) ls rest)) : W p l e R s m args below meth c H locs cells slots Q (F0 m pc ls (.int x :: .ref (O 0) :: rest)) :=
  va_put (ci := 1) (C := RX1) (T := TX1) (N := 15) (ty := .int) hx hb hts hin tyX1 tyX1_ok nmX1 hown hK hP hD hS 0 rfl rfl 6 (by decide) hlink (fun _ h9 => h9) rfl rfl rfl rfl (Nat.le_of_ble_eq_true rfl) hdg kk
theorem x_gi_qs (hx : p.tables.exec = Jvm.exec) (hb : c.code = cc) (hts : ∀ w ∈ Ts, w.before args s = true) (hin : ∀ w ∈ wsX10, w ∈ Ts) (hown : s.vm.findClass RX1 = some m.cls) (hK : va_K D vwCl (xT K) s) (hP : va_P D vwCl (xW O K ad σ) H) {v : Int32} (hv : x_qs σ = v) (hlink : (Cond.fieldLink RX1 index "MailRoom" "queueSize" "I").before args s = true) (hdg : decode cc pc = .ok (.getfield index, 3)) (kk : W p l e R s m args below meth c H locs cells slots Q (F0 m (pc + 3) ls (.int v :: rest))) : W p l e R s m args below meth c H locs cells slots Q (F0 m pc ls (.ref (O 0) :: rest)) := by
  subst hv
  exact va_get (ci := 1) (C := RX1) (T := TX1) (N := 15) hx hb hts hin hown hK hP 0 rfl rfl 7 (by decide) hlink (fun _ h9 => h9) rfl hdg kk
theorem x_pi_qs (hx : p.tables.exec = Jvm.exec) (hb : c.code = cc) (hts : ∀ w ∈ Ts, w.before args s = true) (hin : ∀ w ∈ wsX10, w ∈ Ts) (hown : s.vm.findClass RX1 = some m.cls) (hK : va_K D vwCl (xT K) s) (hP : va_P D vwCl (xW O K ad σ) H) (hD : va_D A (xW O K ad σ)) (hS : va_S A H0 H locs) (hlink : (Cond.fieldLink RX1 index "MailRoom" "queueSize" "I").before args s = true) (hdg : decode cc pc = .ok (.putfield index, 3)) (kk : ∀ (H1 : Heap) (locs1 : List Loc), va_P D vwCl (xW O K ad (xs_qs σ x)) H1 → va_D A (xW O K ad (xs_qs σ x)) → va_S A H0 H1 locs1 → W p l e R s m args below meth c H1 locs1 cells slots Q (F0 m (pc + 3) ls rest)) : W p l e R s m args below meth c H locs cells slots Q (F0 m pc ls (.int x :: .ref (O 0) :: rest)) :=
  va_put (ci := 1) (C := RX1) (T := TX1) (N := 15) (ty := .int) hx hb hts hin tyX1 tyX1_ok nmX1 hown hK hP hD hS 0 rfl rfl 7 (by decide) hlink (fun _ h9 => h9) rfl rfl rfl rfl (Nat.le_of_ble_eq_true rfl) hdg kk
theorem x_gi_tk (hx : p.tables.exec = Jvm.exec) (hb : c.code = cc) (hts : ∀ w ∈ Ts, w.before args s = true) (hin : ∀ w ∈ wsX10, w ∈ Ts) (hown : s.vm.findClass RX1 = some m.cls) (hK : va_K D vwCl (xT K) s) (hP : va_P D vwCl (xW O K ad σ) H) {v : Int32} (hv : x_tk σ = v) (hlink : (Cond.fieldLink RX1 index "MailRoom" "taken" "I").before args s = true) (hdg : decode cc pc = .ok (.getfield index, 3)) (kk : W p l e R s m args below meth c H locs cells slots Q (F0 m (pc + 3) ls (.int v :: rest))) : W p l e R s m args below meth c H locs cells slots Q (F0 m pc ls (.ref (O 0) :: rest)) := by
  subst hv
  exact va_get (ci := 1) (C := RX1) (T := TX1) (N := 15) hx hb hts hin hown hK hP 0 rfl rfl 8 (by decide) hlink (fun _ h9 => h9) rfl hdg kk
theorem x_pi_tk (hx : p.tables.exec = Jvm.exec) (hb : c.code = cc) (hts : ∀ w ∈ Ts, w.before args s = true) (hin : ∀ w ∈ wsX10, w ∈ Ts) (hown : s.vm.findClass RX1 = some m.cls) (hK : va_K D vwCl (xT K) s) (hP : va_P D vwCl (xW O K ad σ) H) (hD : va_D A (xW O K ad σ)) (hS : va_S A H0 H locs) (hlink : (Cond.fieldLink RX1 index "MailRoom" "taken" "I").before args s = true) (hdg : decode cc pc = .ok (.putfield index, 3)) (kk : ∀ (H1 : Heap) (locs1 : List Loc), va_P D vwCl (xW O K ad (xs_tk σ x)) H1 → va_D A (xW O K ad (xs_tk σ x)) → va_S A H0 H1 locs1 → W p l e R s m args below meth c H1 locs1 cells slots Q (F0 m (pc + 3) ls rest)) : W p l e R s m args below meth c H locs cells slots Q (F0 m pc ls (.int x :: .ref (O 0) :: rest)) :=
  va_put (ci := 1) (C := RX1) (T := TX1) (N := 15) (ty := .int) hx hb hts hin tyX1 tyX1_ok nmX1 hown hK hP hD hS 0 rfl rfl 8 (by decide) hlink (fun _ h9 => h9) rfl rfl rfl rfl (Nat.le_of_ble_eq_true rfl) hdg kk
theorem x_ga_6 (hx : p.tables.exec = Jvm.exec) (hb : c.code = cc) (hts : ∀ w ∈ Ts, w.before args s = true) (hin : ∀ w ∈ wsX10, w ∈ Ts) (hown : s.vm.findClass RX1 = some m.cls) (hK : va_K D vwCl (xT K) s) (hP : va_P D vwCl (xW O K ad σ) H) (hlink : (Cond.fieldLink RX1 index "MailRoom" "failedKinds" "[I").before args s = true) (hdg : decode cc pc = .ok (.getfield index, 3)) (kk : W p l e R s m args below meth c H locs cells slots Q (F0 m (pc + 3) ls (.ref (O 6) :: rest))) : W p l e R s m args below meth c H locs cells slots Q (F0 m pc ls (.ref (O 0) :: rest)) :=
  va_get (ci := 1) (C := RX1) (T := TX1) (N := 15) hx hb hts hin hown hK hP 0 rfl rfl 9 (by decide) hlink (fun _ h9 => h9) rfl hdg kk
theorem x_ga_7 (hx : p.tables.exec = Jvm.exec) (hb : c.code = cc) (hts : ∀ w ∈ Ts, w.before args s = true) (hin : ∀ w ∈ wsX10, w ∈ Ts) (hown : s.vm.findClass RX1 = some m.cls) (hK : va_K D vwCl (xT K) s) (hP : va_P D vwCl (xW O K ad σ) H) (hlink : (Cond.fieldLink RX1 index "MailRoom" "failedNumbers" "[I").before args s = true) (hdg : decode cc pc = .ok (.getfield index, 3)) (kk : W p l e R s m args below meth c H locs cells slots Q (F0 m (pc + 3) ls (.ref (O 7) :: rest))) : W p l e R s m args below meth c H locs cells slots Q (F0 m pc ls (.ref (O 0) :: rest)) :=
  va_get (ci := 1) (C := RX1) (T := TX1) (N := 15) hx hb hts hin hown hK hP 0 rfl rfl 10 (by decide) hlink (fun _ h9 => h9) rfl hdg kk
theorem x_ga_8 (hx : p.tables.exec = Jvm.exec) (hb : c.code = cc) (hts : ∀ w ∈ Ts, w.before args s = true) (hin : ∀ w ∈ wsX10, w ∈ Ts) (hown : s.vm.findClass RX1 = some m.cls) (hK : va_K D vwCl (xT K) s) (hP : va_P D vwCl (xW O K ad σ) H) (hlink : (Cond.fieldLink RX1 index "MailRoom" "failedValues" "[J").before args s = true) (hdg : decode cc pc = .ok (.getfield index, 3)) (kk : W p l e R s m args below meth c H locs cells slots Q (F0 m (pc + 3) ls (.ref (O 8) :: rest))) : W p l e R s m args below meth c H locs cells slots Q (F0 m pc ls (.ref (O 0) :: rest)) :=
  va_get (ci := 1) (C := RX1) (T := TX1) (N := 15) hx hb hts hin hown hK hP 0 rfl rfl 11 (by decide) hlink (fun _ h9 => h9) rfl hdg kk
theorem x_gi_fl (hx : p.tables.exec = Jvm.exec) (hb : c.code = cc) (hts : ∀ w ∈ Ts, w.before args s = true) (hin : ∀ w ∈ wsX10, w ∈ Ts) (hown : s.vm.findClass RX1 = some m.cls) (hK : va_K D vwCl (xT K) s) (hP : va_P D vwCl (xW O K ad σ) H) {v : Int32} (hv : x_fl σ = v) (hlink : (Cond.fieldLink RX1 index "MailRoom" "failures" "I").before args s = true) (hdg : decode cc pc = .ok (.getfield index, 3)) (kk : W p l e R s m args below meth c H locs cells slots Q (F0 m (pc + 3) ls (.int v :: rest))) : W p l e R s m args below meth c H locs cells slots Q (F0 m pc ls (.ref (O 0) :: rest)) := by
  subst hv
  exact va_get (ci := 1) (C := RX1) (T := TX1) (N := 15) hx hb hts hin hown hK hP 0 rfl rfl 12 (by decide) hlink (fun _ h9 => h9) rfl hdg kk
theorem x_pi_fl (hx : p.tables.exec = Jvm.exec) (hb : c.code = cc) (hts : ∀ w ∈ Ts, w.before args s = true) (hin : ∀ w ∈ wsX10, w ∈ Ts) (hown : s.vm.findClass RX1 = some m.cls) (hK : va_K D vwCl (xT K) s) (hP : va_P D vwCl (xW O K ad σ) H) (hD : va_D A (xW O K ad σ)) (hS : va_S A H0 H locs) (hlink : (Cond.fieldLink RX1 index "MailRoom" "failures" "I").before args s = true) (hdg : decode cc pc = .ok (.putfield index, 3)) (kk : ∀ (H1 : Heap) (locs1 : List Loc), va_P D vwCl (xW O K ad (xs_fl σ x)) H1 → va_D A (xW O K ad (xs_fl σ x)) → va_S A H0 H1 locs1 → W p l e R s m args below meth c H1 locs1 cells slots Q (F0 m (pc + 3) ls rest)) : W p l e R s m args below meth c H locs cells slots Q (F0 m pc ls (.int x :: .ref (O 0) :: rest)) :=
  va_put (ci := 1) (C := RX1) (T := TX1) (N := 15) (ty := .int) hx hb hts hin tyX1 tyX1_ok nmX1 hown hK hP hD hS 0 rfl rfl 12 (by decide) hlink (fun _ h9 => h9) rfl rfl rfl rfl (Nat.le_of_ble_eq_true rfl) hdg kk
theorem x_gi_bl (hx : p.tables.exec = Jvm.exec) (hb : c.code = cc) (hts : ∀ w ∈ Ts, w.before args s = true) (hin : ∀ w ∈ wsX10, w ∈ Ts) (hown : s.vm.findClass RX1 = some m.cls) (hK : va_K D vwCl (xT K) s) (hP : va_P D vwCl (xW O K ad σ) H) {v : Int32} (hv : x_bl σ = v) (hlink : (Cond.fieldLink RX1 index "MailRoom" "begunForLetter" "I").before args s = true) (hdg : decode cc pc = .ok (.getfield index, 3)) (kk : W p l e R s m args below meth c H locs cells slots Q (F0 m (pc + 3) ls (.int v :: rest))) : W p l e R s m args below meth c H locs cells slots Q (F0 m pc ls (.ref (O 0) :: rest)) := by
  subst hv
  exact va_get (ci := 1) (C := RX1) (T := TX1) (N := 15) hx hb hts hin hown hK hP 0 rfl rfl 13 (by decide) hlink (fun _ h9 => h9) rfl hdg kk
theorem x_pi_bl (hx : p.tables.exec = Jvm.exec) (hb : c.code = cc) (hts : ∀ w ∈ Ts, w.before args s = true) (hin : ∀ w ∈ wsX10, w ∈ Ts) (hown : s.vm.findClass RX1 = some m.cls) (hK : va_K D vwCl (xT K) s) (hP : va_P D vwCl (xW O K ad σ) H) (hD : va_D A (xW O K ad σ)) (hS : va_S A H0 H locs) (hlink : (Cond.fieldLink RX1 index "MailRoom" "begunForLetter" "I").before args s = true) (hdg : decode cc pc = .ok (.putfield index, 3)) (kk : ∀ (H1 : Heap) (locs1 : List Loc), va_P D vwCl (xW O K ad (xs_bl σ x)) H1 → va_D A (xW O K ad (xs_bl σ x)) → va_S A H0 H1 locs1 → W p l e R s m args below meth c H1 locs1 cells slots Q (F0 m (pc + 3) ls rest)) : W p l e R s m args below meth c H locs cells slots Q (F0 m pc ls (.int x :: .ref (O 0) :: rest)) :=
  va_put (ci := 1) (C := RX1) (T := TX1) (N := 15) (ty := .int) hx hb hts hin tyX1 tyX1_ok nmX1 hown hK hP hD hS 0 rfl rfl 13 (by decide) hlink (fun _ h9 => h9) rfl rfl rfl rfl (Nat.le_of_ble_eq_true rfl) hdg kk
theorem x_gi_bic (hx : p.tables.exec = Jvm.exec) (hb : c.code = cc) (hts : ∀ w ∈ Ts, w.before args s = true) (hin : ∀ w ∈ wsX10, w ∈ Ts) (hown : s.vm.findClass RX1 = some m.cls) (hK : va_K D vwCl (xT K) s) (hP : va_P D vwCl (xW O K ad σ) H) {v : Int32} (hv : x_bic σ = v) (hlink : (Cond.fieldLink RX1 index "MailRoom" "begunInCall" "I").before args s = true) (hdg : decode cc pc = .ok (.getfield index, 3)) (kk : W p l e R s m args below meth c H locs cells slots Q (F0 m (pc + 3) ls (.int v :: rest))) : W p l e R s m args below meth c H locs cells slots Q (F0 m pc ls (.ref (O 0) :: rest)) := by
  subst hv
  exact va_get (ci := 1) (C := RX1) (T := TX1) (N := 15) hx hb hts hin hown hK hP 0 rfl rfl 14 (by decide) hlink (fun _ h9 => h9) rfl hdg kk
theorem x_pi_bic (hx : p.tables.exec = Jvm.exec) (hb : c.code = cc) (hts : ∀ w ∈ Ts, w.before args s = true) (hin : ∀ w ∈ wsX10, w ∈ Ts) (hown : s.vm.findClass RX1 = some m.cls) (hK : va_K D vwCl (xT K) s) (hP : va_P D vwCl (xW O K ad σ) H) (hD : va_D A (xW O K ad σ)) (hS : va_S A H0 H locs) (hlink : (Cond.fieldLink RX1 index "MailRoom" "begunInCall" "I").before args s = true) (hdg : decode cc pc = .ok (.putfield index, 3)) (kk : ∀ (H1 : Heap) (locs1 : List Loc), va_P D vwCl (xW O K ad (xs_bic σ x)) H1 → va_D A (xW O K ad (xs_bic σ x)) → va_S A H0 H1 locs1 → W p l e R s m args below meth c H1 locs1 cells slots Q (F0 m (pc + 3) ls rest)) : W p l e R s m args below meth c H locs cells slots Q (F0 m pc ls (.int x :: .ref (O 0) :: rest)) :=
  va_put (ci := 1) (C := RX1) (T := TX1) (N := 15) (ty := .int) hx hb hts hin tyX1 tyX1_ok nmX1 hown hK hP hD hS 0 rfl rfl 14 (by decide) hlink (fun _ h9 => h9) rfl rfl rfl rfl (Nat.le_of_ble_eq_true rfl) hdg kk
theorem x_ld_bs (hx : p.tables.exec = Jvm.exec) (hb : c.code = cc) (hK : va_K D vwCl (xT K) s) (hP : va_P D vwCl (xW O K ad σ) H) {f : Nat → Int64} (hv : x_bs σ = f) (hin : vp_in i 6) (hdg : decode cc pc = .ok (.laload, 1)) (kk : W p l e R s m args below meth c H locs cells slots Q (F0 m (pc + 1) ls (.long (f i.toNatClampNeg) :: rest))) : W p l e R s m args below meth c H locs cells slots Q (F0 m pc ls (.int i :: .ref (O 1) :: rest)) := by
  subst hv
  exact va_lald hx hb hK hP 1 0 rfl rfl hin hdg kk
theorem x_st_bs (hx : p.tables.exec = Jvm.exec) (hb : c.code = cc) (hK : va_K D vwCl (xT K) s) (hP : va_P D vwCl (xW O K ad σ) H) (hD : va_D A (xW O K ad σ)) (hS : va_S A H0 H locs) {f : Nat → Int64} {z : Int64} (hv : x_bs σ = f) (hin : vp_in i 6) (hdg : decode cc pc = .ok (.lastore, 1)) (kk : ∀ (H1 : Heap) (locs1 : List Loc), va_P D vwCl (xW O K ad (xs_bs σ (vp_updL f i.toNatClampNeg z))) H1 → va_D A (xW O K ad (xs_bs σ (vp_updL f i.toNatClampNeg z))) → va_S A H0 H1 locs1 → W p l e R s m args below meth c H1 locs1 cells slots Q (F0 m (pc + 1) ls rest)) : W p l e R s m args below meth c H locs cells slots Q (F0 m pc ls (.long z :: .int i :: .ref (O 1) :: rest)) := by
  subst hv
  exact va_last hx hb hK hP hD hS 1 0 rfl rfl hin hdg kk
theorem x_ld_bc (hx : p.tables.exec = Jvm.exec) (hb : c.code = cc) (hK : va_K D vwCl (xT K) s) (hP : va_P D vwCl (xW O K ad σ) H) {f : Nat → Int32} (hv : x_bc σ = f) (hin : vp_in i 6) (hdg : decode cc pc = .ok (.iaload, 1)) (kk : W p l e R s m args below meth c H locs cells slots Q (F0 m (pc + 1) ls (.int (f i.toNatClampNeg) :: rest))) : W p l e R s m args below meth c H locs cells slots Q (F0 m pc ls (.int i :: .ref (O 2) :: rest)) := by
  subst hv
  exact va_iald hx hb hK hP 2 1 rfl rfl hin hdg kk
theorem x_st_bc (hx : p.tables.exec = Jvm.exec) (hb : c.code = cc) (hK : va_K D vwCl (xT K) s) (hP : va_P D vwCl (xW O K ad σ) H) (hD : va_D A (xW O K ad σ)) (hS : va_S A H0 H locs) {f : Nat → Int32} {z : Int32} (hv : x_bc σ = f) (hin : vp_in i 6) (hdg : decode cc pc = .ok (.iastore, 1)) (kk : ∀ (H1 : Heap) (locs1 : List Loc), va_P D vwCl (xW O K ad (xs_bc σ (upd f i.toNatClampNeg z))) H1 → va_D A (xW O K ad (xs_bc σ (upd f i.toNatClampNeg z))) → va_S A H0 H1 locs1 → W p l e R s m args below meth c H1 locs1 cells slots Q (F0 m (pc + 1) ls rest)) : W p l e R s m args below meth c H locs cells slots Q (F0 m pc ls (.int z :: .int i :: .ref (O 2) :: rest)) := by
  subst hv
  exact va_iast hx hb hK hP hD hS 2 1 rfl rfl hin hdg kk
theorem x_ld_qk (hx : p.tables.exec = Jvm.exec) (hb : c.code = cc) (hK : va_K D vwCl (xT K) s) (hP : va_P D vwCl (xW O K ad σ) H) {f : Nat → Int32} (hv : x_qk σ = f) (hin : vp_in i 40) (hdg : decode cc pc = .ok (.iaload, 1)) (kk : W p l e R s m args below meth c H locs cells slots Q (F0 m (pc + 1) ls (.int (f i.toNatClampNeg) :: rest))) : W p l e R s m args below meth c H locs cells slots Q (F0 m pc ls (.int i :: .ref (O 4) :: rest)) := by
  subst hv
  exact va_iald hx hb hK hP 4 3 rfl rfl hin hdg kk
theorem x_st_qk (hx : p.tables.exec = Jvm.exec) (hb : c.code = cc) (hK : va_K D vwCl (xT K) s) (hP : va_P D vwCl (xW O K ad σ) H) (hD : va_D A (xW O K ad σ)) (hS : va_S A H0 H locs) {f : Nat → Int32} {z : Int32} (hv : x_qk σ = f) (hin : vp_in i 40) (hdg : decode cc pc = .ok (.iastore, 1)) (kk : ∀ (H1 : Heap) (locs1 : List Loc), va_P D vwCl (xW O K ad (xs_qk σ (upd f i.toNatClampNeg z))) H1 → va_D A (xW O K ad (xs_qk σ (upd f i.toNatClampNeg z))) → va_S A H0 H1 locs1 → W p l e R s m args below meth c H1 locs1 cells slots Q (F0 m (pc + 1) ls rest)) : W p l e R s m args below meth c H locs cells slots Q (F0 m pc ls (.int z :: .int i :: .ref (O 4) :: rest)) := by
  subst hv
  exact va_iast hx hb hK hP hD hS 4 3 rfl rfl hin hdg kk
theorem x_ld_qv (hx : p.tables.exec = Jvm.exec) (hb : c.code = cc) (hK : va_K D vwCl (xT K) s) (hP : va_P D vwCl (xW O K ad σ) H) {f : Nat → Int64} (hv : x_qv σ = f) (hin : vp_in i 40) (hdg : decode cc pc = .ok (.laload, 1)) (kk : W p l e R s m args below meth c H locs cells slots Q (F0 m (pc + 1) ls (.long (f i.toNatClampNeg) :: rest))) : W p l e R s m args below meth c H locs cells slots Q (F0 m pc ls (.int i :: .ref (O 5) :: rest)) := by
  subst hv
  exact va_lald hx hb hK hP 5 4 rfl rfl hin hdg kk
theorem x_st_qv (hx : p.tables.exec = Jvm.exec) (hb : c.code = cc) (hK : va_K D vwCl (xT K) s) (hP : va_P D vwCl (xW O K ad σ) H) (hD : va_D A (xW O K ad σ)) (hS : va_S A H0 H locs) {f : Nat → Int64} {z : Int64} (hv : x_qv σ = f) (hin : vp_in i 40) (hdg : decode cc pc = .ok (.lastore, 1)) (kk : ∀ (H1 : Heap) (locs1 : List Loc), va_P D vwCl (xW O K ad (xs_qv σ (vp_updL f i.toNatClampNeg z))) H1 → va_D A (xW O K ad (xs_qv σ (vp_updL f i.toNatClampNeg z))) → va_S A H0 H1 locs1 → W p l e R s m args below meth c H1 locs1 cells slots Q (F0 m (pc + 1) ls rest)) : W p l e R s m args below meth c H locs cells slots Q (F0 m pc ls (.long z :: .int i :: .ref (O 5) :: rest)) := by
  subst hv
  exact va_last hx hb hK hP hD hS 5 4 rfl rfl hin hdg kk
theorem x_ld_fk (hx : p.tables.exec = Jvm.exec) (hb : c.code = cc) (hK : va_K D vwCl (xT K) s) (hP : va_P D vwCl (xW O K ad σ) H) {f : Nat → Int32} (hv : x_fk σ = f) (hin : vp_in i 30) (hdg : decode cc pc = .ok (.iaload, 1)) (kk : W p l e R s m args below meth c H locs cells slots Q (F0 m (pc + 1) ls (.int (f i.toNatClampNeg) :: rest))) : W p l e R s m args below meth c H locs cells slots Q (F0 m pc ls (.int i :: .ref (O 6) :: rest)) := by
  subst hv
  exact va_iald hx hb hK hP 6 5 rfl rfl hin hdg kk
theorem x_st_fk (hx : p.tables.exec = Jvm.exec) (hb : c.code = cc) (hK : va_K D vwCl (xT K) s) (hP : va_P D vwCl (xW O K ad σ) H) (hD : va_D A (xW O K ad σ)) (hS : va_S A H0 H locs) {f : Nat → Int32} {z : Int32} (hv : x_fk σ = f) (hin : vp_in i 30) (hdg : decode cc pc = .ok (.iastore, 1)) (kk : ∀ (H1 : Heap) (locs1 : List Loc), va_P D vwCl (xW O K ad (xs_fk σ (upd f i.toNatClampNeg z))) H1 → va_D A (xW O K ad (xs_fk σ (upd f i.toNatClampNeg z))) → va_S A H0 H1 locs1 → W p l e R s m args below meth c H1 locs1 cells slots Q (F0 m (pc + 1) ls rest)) : W p l e R s m args below meth c H locs cells slots Q (F0 m pc ls (.int z :: .int i :: .ref (O 6) :: rest)) := by
  subst hv
  exact va_iast hx hb hK hP hD hS 6 5 rfl rfl hin hdg kk
theorem x_ld_fn (hx : p.tables.exec = Jvm.exec) (hb : c.code = cc) (hK : va_K D vwCl (xT K) s) (hP : va_P D vwCl (xW O K ad σ) H) {f : Nat → Int32} (hv : x_fn σ = f) (hin : vp_in i 30) (hdg : decode cc pc = .ok (.iaload, 1)) (kk : W p l e R s m args below meth c H locs cells slots Q (F0 m (pc + 1) ls (.int (f i.toNatClampNeg) :: rest))) : W p l e R s m args below meth c H locs cells slots Q (F0 m pc ls (.int i :: .ref (O 7) :: rest)) := by
  subst hv
  exact va_iald hx hb hK hP 7 6 rfl rfl hin hdg kk
theorem x_st_fn (hx : p.tables.exec = Jvm.exec) (hb : c.code = cc) (hK : va_K D vwCl (xT K) s) (hP : va_P D vwCl (xW O K ad σ) H) (hD : va_D A (xW O K ad σ)) (hS : va_S A H0 H locs) {f : Nat → Int32} {z : Int32} (hv : x_fn σ = f) (hin : vp_in i 30) (hdg : decode cc pc = .ok (.iastore, 1)) (kk : ∀ (H1 : Heap) (locs1 : List Loc), va_P D vwCl (xW O K ad (xs_fn σ (upd f i.toNatClampNeg z))) H1 → va_D A (xW O K ad (xs_fn σ (upd f i.toNatClampNeg z))) → va_S A H0 H1 locs1 → W p l e R s m args below meth c H1 locs1 cells slots Q (F0 m (pc + 1) ls rest)) : W p l e R s m args below meth c H locs cells slots Q (F0 m pc ls (.int z :: .int i :: .ref (O 7) :: rest)) := by
  subst hv
  exact va_iast hx hb hK hP hD hS 7 6 rfl rfl hin hdg kk
theorem x_ld_fv (hx : p.tables.exec = Jvm.exec) (hb : c.code = cc) (hK : va_K D vwCl (xT K) s) (hP : va_P D vwCl (xW O K ad σ) H) {f : Nat → Int64} (hv : x_fv σ = f) (hin : vp_in i 30) (hdg : decode cc pc = .ok (.laload, 1)) (kk : W p l e R s m args below meth c H locs cells slots Q (F0 m (pc + 1) ls (.long (f i.toNatClampNeg) :: rest))) : W p l e R s m args below meth c H locs cells slots Q (F0 m pc ls (.int i :: .ref (O 8) :: rest)) := by
  subst hv
  exact va_lald hx hb hK hP 8 7 rfl rfl hin hdg kk
theorem x_st_fv (hx : p.tables.exec = Jvm.exec) (hb : c.code = cc) (hK : va_K D vwCl (xT K) s) (hP : va_P D vwCl (xW O K ad σ) H) (hD : va_D A (xW O K ad σ)) (hS : va_S A H0 H locs) {f : Nat → Int64} {z : Int64} (hv : x_fv σ = f) (hin : vp_in i 30) (hdg : decode cc pc = .ok (.lastore, 1)) (kk : ∀ (H1 : Heap) (locs1 : List Loc), va_P D vwCl (xW O K ad (xs_fv σ (vp_updL f i.toNatClampNeg z))) H1 → va_D A (xW O K ad (xs_fv σ (vp_updL f i.toNatClampNeg z))) → va_S A H0 H1 locs1 → W p l e R s m args below meth c H1 locs1 cells slots Q (F0 m (pc + 1) ls rest)) : W p l e R s m args below meth c H locs cells slots Q (F0 m pc ls (.long z :: .int i :: .ref (O 8) :: rest)) := by
  subst hv
  exact va_last hx hb hK hP hD hS 8 7 rfl rfl hin hdg kk
end XROWS
