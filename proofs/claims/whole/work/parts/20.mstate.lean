/-! the state of the reference and its cells -/
abbrev SM : Type := (Nat → Int64) × (Nat → Int32) × Int32 × (Nat → Int32) × (Nat → Int32) × (Nat → Int32) × (Nat → Int32) × (Nat → Int64) × (Nat → Int32) × (Nat → Int32) × (Nat → Int32) × (Nat → Int32) × Int32 × (Nat → Int32) × (Nat → Int64) × Int32 × Int32 × Int32 × (Nat → Int32) × (Nat → Int32) × (Nat → Int64) × Int32 × Int32 × Int32 × (Nat → Int32) × (Nat → Int32) × (Nat → Int64) × Int32
noncomputable def m_su (σ : SM) : Nat → Int64 := σ.1
noncomputable def m_co (σ : SM) : Nat → Int32 := σ.2.1
noncomputable def m_many (σ : SM) : Int32 := σ.2.2.1
noncomputable def m_so (σ : SM) : Nat → Int32 := σ.2.2.2.1
noncomputable def m_ki (σ : SM) : Nat → Int32 := σ.2.2.2.2.1
noncomputable def m_as (σ : SM) : Nat → Int32 := σ.2.2.2.2.2.1
noncomputable def m_bs (σ : SM) : Nat → Int32 := σ.2.2.2.2.2.2.1
noncomputable def m_cs (σ : SM) : Nat → Int64 := σ.2.2.2.2.2.2.2.1
noncomputable def m_fo (σ : SM) : Nat → Int32 := σ.2.2.2.2.2.2.2.2.1
noncomputable def m_ot (σ : SM) : Nat → Int32 := σ.2.2.2.2.2.2.2.2.2.1
noncomputable def m_le (σ : SM) : Nat → Int32 := σ.2.2.2.2.2.2.2.2.2.2.1
noncomputable def m_st (σ : SM) : Nat → Int32 := σ.2.2.2.2.2.2.2.2.2.2.2.1
noncomputable def m_sz (σ : SM) : Int32 := σ.2.2.2.2.2.2.2.2.2.2.2.2.1
noncomputable def m_qk (σ : SM) : Nat → Int32 := σ.2.2.2.2.2.2.2.2.2.2.2.2.2.1
noncomputable def m_qv (σ : SM) : Nat → Int64 := σ.2.2.2.2.2.2.2.2.2.2.2.2.2.2.1
noncomputable def m_tk (σ : SM) : Int32 := σ.2.2.2.2.2.2.2.2.2.2.2.2.2.2.2.1
noncomputable def m_fe (σ : SM) : Int32 := σ.2.2.2.2.2.2.2.2.2.2.2.2.2.2.2.2.1
noncomputable def m_kp (σ : SM) : Int32 := σ.2.2.2.2.2.2.2.2.2.2.2.2.2.2.2.2.2.1
noncomputable def m_kk (σ : SM) : Nat → Int32 := σ.2.2.2.2.2.2.2.2.2.2.2.2.2.2.2.2.2.2.1
noncomputable def m_kf (σ : SM) : Nat → Int32 := σ.2.2.2.2.2.2.2.2.2.2.2.2.2.2.2.2.2.2.2.1
noncomputable def m_kv (σ : SM) : Nat → Int64 := σ.2.2.2.2.2.2.2.2.2.2.2.2.2.2.2.2.2.2.2.2.1
noncomputable def m_la (σ : SM) : Int32 := σ.2.2.2.2.2.2.2.2.2.2.2.2.2.2.2.2.2.2.2.2.2.1
noncomputable def m_tp (σ : SM) : Int32 := σ.2.2.2.2.2.2.2.2.2.2.2.2.2.2.2.2.2.2.2.2.2.2.1
noncomputable def m_bg (σ : SM) : Int32 := σ.2.2.2.2.2.2.2.2.2.2.2.2.2.2.2.2.2.2.2.2.2.2.2.1
noncomputable def m_wh (σ : SM) : Nat → Int32 := σ.2.2.2.2.2.2.2.2.2.2.2.2.2.2.2.2.2.2.2.2.2.2.2.2.1
noncomputable def m_sg (σ : SM) : Nat → Int32 := σ.2.2.2.2.2.2.2.2.2.2.2.2.2.2.2.2.2.2.2.2.2.2.2.2.2.1
noncomputable def m_va (σ : SM) : Nat → Int64 := σ.2.2.2.2.2.2.2.2.2.2.2.2.2.2.2.2.2.2.2.2.2.2.2.2.2.2.1
noncomputable def m_fa (σ : SM) : Int32 := σ.2.2.2.2.2.2.2.2.2.2.2.2.2.2.2.2.2.2.2.2.2.2.2.2.2.2.2
noncomputable def ms_su (σ : SM) (v : Nat → Int64) : SM := (v, σ.2)
noncomputable def ms_co (σ : SM) (v : Nat → Int32) : SM := (σ.1, v, σ.2.2)
noncomputable def ms_many (σ : SM) (v : Int32) : SM := (σ.1, σ.2.1, v, σ.2.2.2)
noncomputable def ms_so (σ : SM) (v : Nat → Int32) : SM := (σ.1, σ.2.1, σ.2.2.1, v, σ.2.2.2.2)
noncomputable def ms_ki (σ : SM) (v : Nat → Int32) : SM := (σ.1, σ.2.1, σ.2.2.1, σ.2.2.2.1, v, σ.2.2.2.2.2)
noncomputable def ms_as (σ : SM) (v : Nat → Int32) : SM := (σ.1, σ.2.1, σ.2.2.1, σ.2.2.2.1, σ.2.2.2.2.1, v, σ.2.2.2.2.2.2)
noncomputable def ms_bs (σ : SM) (v : Nat → Int32) : SM := (σ.1, σ.2.1, σ.2.2.1, σ.2.2.2.1, σ.2.2.2.2.1, σ.2.2.2.2.2.1, v, σ.2.2.2.2.2.2.2)
noncomputable def ms_cs (σ : SM) (v : Nat → Int64) : SM := (σ.1, σ.2.1, σ.2.2.1, σ.2.2.2.1, σ.2.2.2.2.1, σ.2.2.2.2.2.1, σ.2.2.2.2.2.2.1, v, σ.2.2.2.2.2.2.2.2)
noncomputable def ms_fo (σ : SM) (v : Nat → Int32) : SM := (σ.1, σ.2.1, σ.2.2.1, σ.2.2.2.1, σ.2.2.2.2.1, σ.2.2.2.2.2.1, σ.2.2.2.2.2.2.1, σ.2.2.2.2.2.2.2.1, v, σ.2.2.2.2.2.2.2.2.2)
noncomputable def ms_ot (σ : SM) (v : Nat → Int32) : SM := (σ.1, σ.2.1, σ.2.2.1, σ.2.2.2.1, σ.2.2.2.2.1, σ.2.2.2.2.2.1, σ.2.2.2.2.2.2.1, σ.2.2.2.2.2.2.2.1, σ.2.2.2.2.2.2.2.2.1, v, σ.2.2.2.2.2.2.2.2.2.2)
noncomputable def ms_le (σ : SM) (v : Nat → Int32) : SM := (σ.1, σ.2.1, σ.2.2.1, σ.2.2.2.1, σ.2.2.2.2.1, σ.2.2.2.2.2.1, σ.2.2.2.2.2.2.1, σ.2.2.2.2.2.2.2.1, σ.2.2.2.2.2.2.2.2.1, σ.2.2.2.2.2.2.2.2.2.1, v, σ.2.2.2.2.2.2.2.2.2.2.2)
noncomputable def ms_st (σ : SM) (v : Nat → Int32) : SM := (σ.1, σ.2.1, σ.2.2.1, σ.2.2.2.1, σ.2.2.2.2.1, σ.2.2.2.2.2.1, σ.2.2.2.2.2.2.1, σ.2.2.2.2.2.2.2.1, σ.2.2.2.2.2.2.2.2.1, σ.2.2.2.2.2.2.2.2.2.1, σ.2.2.2.2.2.2.2.2.2.2.1, v, σ.2.2.2.2.2.2.2.2.2.2.2.2)
noncomputable def ms_sz (σ : SM) (v : Int32) : SM := (σ.1, σ.2.1, σ.2.2.1, σ.2.2.2.1, σ.2.2.2.2.1, σ.2.2.2.2.2.1, σ.2.2.2.2.2.2.1, σ.2.2.2.2.2.2.2.1, σ.2.2.2.2.2.2.2.2.1, σ.2.2.2.2.2.2.2.2.2.1, σ.2.2.2.2.2.2.2.2.2.2.1, σ.2.2.2.2.2.2.2.2.2.2.2.1, v, σ.2.2.2.2.2.2.2.2.2.2.2.2.2)
noncomputable def ms_qk (σ : SM) (v : Nat → Int32) : SM := (σ.1, σ.2.1, σ.2.2.1, σ.2.2.2.1, σ.2.2.2.2.1, σ.2.2.2.2.2.1, σ.2.2.2.2.2.2.1, σ.2.2.2.2.2.2.2.1, σ.2.2.2.2.2.2.2.2.1, σ.2.2.2.2.2.2.2.2.2.1, σ.2.2.2.2.2.2.2.2.2.2.1, σ.2.2.2.2.2.2.2.2.2.2.2.1, σ.2.2.2.2.2.2.2.2.2.2.2.2.1, v, σ.2.2.2.2.2.2.2.2.2.2.2.2.2.2)
noncomputable def ms_qv (σ : SM) (v : Nat → Int64) : SM := (σ.1, σ.2.1, σ.2.2.1, σ.2.2.2.1, σ.2.2.2.2.1, σ.2.2.2.2.2.1, σ.2.2.2.2.2.2.1, σ.2.2.2.2.2.2.2.1, σ.2.2.2.2.2.2.2.2.1, σ.2.2.2.2.2.2.2.2.2.1, σ.2.2.2.2.2.2.2.2.2.2.1, σ.2.2.2.2.2.2.2.2.2.2.2.1, σ.2.2.2.2.2.2.2.2.2.2.2.2.1, σ.2.2.2.2.2.2.2.2.2.2.2.2.2.1, v, σ.2.2.2.2.2.2.2.2.2.2.2.2.2.2.2)
noncomputable def ms_tk (σ : SM) (v : Int32) : SM := (σ.1, σ.2.1, σ.2.2.1, σ.2.2.2.1, σ.2.2.2.2.1, σ.2.2.2.2.2.1, σ.2.2.2.2.2.2.1, σ.2.2.2.2.2.2.2.1, σ.2.2.2.2.2.2.2.2.1, σ.2.2.2.2.2.2.2.2.2.1, σ.2.2.2.2.2.2.2.2.2.2.1, σ.2.2.2.2.2.2.2.2.2.2.2.1, σ.2.2.2.2.2.2.2.2.2.2.2.2.1, σ.2.2.2.2.2.2.2.2.2.2.2.2.2.1, σ.2.2.2.2.2.2.2.2.2.2.2.2.2.2.1, v, σ.2.2.2.2.2.2.2.2.2.2.2.2.2.2.2.2)
noncomputable def ms_fe (σ : SM) (v : Int32) : SM := (σ.1, σ.2.1, σ.2.2.1, σ.2.2.2.1, σ.2.2.2.2.1, σ.2.2.2.2.2.1, σ.2.2.2.2.2.2.1, σ.2.2.2.2.2.2.2.1, σ.2.2.2.2.2.2.2.2.1, σ.2.2.2.2.2.2.2.2.2.1, σ.2.2.2.2.2.2.2.2.2.2.1, σ.2.2.2.2.2.2.2.2.2.2.2.1, σ.2.2.2.2.2.2.2.2.2.2.2.2.1, σ.2.2.2.2.2.2.2.2.2.2.2.2.2.1, σ.2.2.2.2.2.2.2.2.2.2.2.2.2.2.1, σ.2.2.2.2.2.2.2.2.2.2.2.2.2.2.2.1, v, σ.2.2.2.2.2.2.2.2.2.2.2.2.2.2.2.2.2)
noncomputable def ms_kp (σ : SM) (v : Int32) : SM := (σ.1, σ.2.1, σ.2.2.1, σ.2.2.2.1, σ.2.2.2.2.1, σ.2.2.2.2.2.1, σ.2.2.2.2.2.2.1, σ.2.2.2.2.2.2.2.1, σ.2.2.2.2.2.2.2.2.1, σ.2.2.2.2.2.2.2.2.2.1, σ.2.2.2.2.2.2.2.2.2.2.1, σ.2.2.2.2.2.2.2.2.2.2.2.1, σ.2.2.2.2.2.2.2.2.2.2.2.2.1, σ.2.2.2.2.2.2.2.2.2.2.2.2.2.1, σ.2.2.2.2.2.2.2.2.2.2.2.2.2.2.1, σ.2.2.2.2.2.2.2.2.2.2.2.2.2.2.2.1, σ.2.2.2.2.2.2.2.2.2.2.2.2.2.2.2.2.1, v, σ.2.2.2.2.2.2.2.2.2.2.2.2.2.2.2.2.2.2)
noncomputable def ms_kk (σ : SM) (v : Nat → Int32) : SM := (σ.1, σ.2.1, σ.2.2.1, σ.2.2.2.1, σ.2.2.2.2.1, σ.2.2.2.2.2.1, σ.2.2.2.2.2.2.1, σ.2.2.2.2.2.2.2.1, σ.2.2.2.2.2.2.2.2.1, σ.2.2.2.2.2.2.2.2.2.1, σ.2.2.2.2.2.2.2.2.2.2.1, σ.2.2.2.2.2.2.2.2.2.2.2.1, σ.2.2.2.2.2.2.2.2.2.2.2.2.1, σ.2.2.2.2.2.2.2.2.2.2.2.2.2.1, σ.2.2.2.2.2.2.2.2.2.2.2.2.2.2.1, σ.2.2.2.2.2.2.2.2.2.2.2.2.2.2.2.1, σ.2.2.2.2.2.2.2.2.2.2.2.2.2.2.2.2.1, σ.2.2.2.2.2.2.2.2.2.2.2.2.2.2.2.2.2.1, v, σ.2.2.2.2.2.2.2.2.2.2.2.2.2.2.2.2.2.2.2)
noncomputable def ms_kf (σ : SM) (v : Nat → Int32) : SM := (σ.1, σ.2.1, σ.2.2.1, σ.2.2.2.1, σ.2.2.2.2.1, σ.2.2.2.2.2.1, σ.2.2.2.2.2.2.1, σ.2.2.2.2.2.2.2.1, σ.2.2.2.2.2.2.2.2.1, σ.2.2.2.2.2.2.2.2.2.1, σ.2.2.2.2.2.2.2.2.2.2.1, σ.2.2.2.2.2.2.2.2.2.2.2.1, σ.2.2.2.2.2.2.2.2.2.2.2.2.1, σ.2.2.2.2.2.2.2.2.2.2.2.2.2.1, σ.2.2.2.2.2.2.2.2.2.2.2.2.2.2.1, σ.2.2.2.2.2.2.2.2.2.2.2.2.2.2.2.1, σ.2.2.2.2.2.2.2.2.2.2.2.2.2.2.2.2.1, σ.2.2.2.2.2.2.2.2.2.2.2.2.2.2.2.2.2.1, σ.2.2.2.2.2.2.2.2.2.2.2.2.2.2.2.2.2.2.1, v, σ.2.2.2.2.2.2.2.2.2.2.2.2.2.2.2.2.2.2.2.2)
noncomputable def ms_kv (σ : SM) (v : Nat → Int64) : SM := (σ.1, σ.2.1, σ.2.2.1, σ.2.2.2.1, σ.2.2.2.2.1, σ.2.2.2.2.2.1, σ.2.2.2.2.2.2.1, σ.2.2.2.2.2.2.2.1, σ.2.2.2.2.2.2.2.2.1, σ.2.2.2.2.2.2.2.2.2.1, σ.2.2.2.2.2.2.2.2.2.2.1, σ.2.2.2.2.2.2.2.2.2.2.2.1, σ.2.2.2.2.2.2.2.2.2.2.2.2.1, σ.2.2.2.2.2.2.2.2.2.2.2.2.2.1, σ.2.2.2.2.2.2.2.2.2.2.2.2.2.2.1, σ.2.2.2.2.2.2.2.2.2.2.2.2.2.2.2.1, σ.2.2.2.2.2.2.2.2.2.2.2.2.2.2.2.2.1, σ.2.2.2.2.2.2.2.2.2.2.2.2.2.2.2.2.2.1, σ.2.2.2.2.2.2.2.2.2.2.2.2.2.2.2.2.2.2.1, σ.2.2.2.2.2.2.2.2.2.2.2.2.2.2.2.2.2.2.2.1, v, σ.2.2.2.2.2.2.2.2.2.2.2.2.2.2.2.2.2.2.2.2.2)
noncomputable def ms_la (σ : SM) (v : Int32) : SM := (σ.1, σ.2.1, σ.2.2.1, σ.2.2.2.1, σ.2.2.2.2.1, σ.2.2.2.2.2.1, σ.2.2.2.2.2.2.1, σ.2.2.2.2.2.2.2.1, σ.2.2.2.2.2.2.2.2.1, σ.2.2.2.2.2.2.2.2.2.1, σ.2.2.2.2.2.2.2.2.2.2.1, σ.2.2.2.2.2.2.2.2.2.2.2.1, σ.2.2.2.2.2.2.2.2.2.2.2.2.1, σ.2.2.2.2.2.2.2.2.2.2.2.2.2.1, σ.2.2.2.2.2.2.2.2.2.2.2.2.2.2.1, σ.2.2.2.2.2.2.2.2.2.2.2.2.2.2.2.1, σ.2.2.2.2.2.2.2.2.2.2.2.2.2.2.2.2.1, σ.2.2.2.2.2.2.2.2.2.2.2.2.2.2.2.2.2.1, σ.2.2.2.2.2.2.2.2.2.2.2.2.2.2.2.2.2.2.1, σ.2.2.2.2.2.2.2.2.2.2.2.2.2.2.2.2.2.2.2.1, σ.2.2.2.2.2.2.2.2.2.2.2.2.2.2.2.2.2.2.2.2.1, v, σ.2.2.2.2.2.2.2.2.2.2.2.2.2.2.2.2.2.2.2.2.2.2)
noncomputable def ms_tp (σ : SM) (v : Int32) : SM := (σ.1, σ.2.1, σ.2.2.1, σ.2.2.2.1, σ.2.2.2.2.1, σ.2.2.2.2.2.1, σ.2.2.2.2.2.2.1, σ.2.2.2.2.2.2.2.1, σ.2.2.2.2.2.2.2.2.1, σ.2.2.2.2.2.2.2.2.2.1, σ.2.2.2.2.2.2.2.2.2.2.1, σ.2.2.2.2.2.2.2.2.2.2.2.1, σ.2.2.2.2.2.2.2.2.2.2.2.2.1, σ.2.2.2.2.2.2.2.2.2.2.2.2.2.1, σ.2.2.2.2.2.2.2.2.2.2.2.2.2.2.1, σ.2.2.2.2.2.2.2.2.2.2.2.2.2.2.2.1, σ.2.2.2.2.2.2.2.2.2.2.2.2.2.2.2.2.1, σ.2.2.2.2.2.2.2.2.2.2.2.2.2.2.2.2.2.1, σ.2.2.2.2.2.2.2.2.2.2.2.2.2.2.2.2.2.2.1, σ.2.2.2.2.2.2.2.2.2.2.2.2.2.2.2.2.2.2.2.1, σ.2.2.2.2.2.2.2.2.2.2.2.2.2.2.2.2.2.2.2.2.1, σ.2.2.2.2.2.2.2.2.2.2.2.2.2.2.2.2.2.2.2.2.2.1, v, σ.2.2.2.2.2.2.2.2.2.2.2.2.2.2.2.2.2.2.2.2.2.2.2)
noncomputable def ms_bg (σ : SM) (v : Int32) : SM := (σ.1, σ.2.1, σ.2.2.1, σ.2.2.2.1, σ.2.2.2.2.1, σ.2.2.2.2.2.1, σ.2.2.2.2.2.2.1, σ.2.2.2.2.2.2.2.1, σ.2.2.2.2.2.2.2.2.1, σ.2.2.2.2.2.2.2.2.2.1, σ.2.2.2.2.2.2.2.2.2.2.1, σ.2.2.2.2.2.2.2.2.2.2.2.1, σ.2.2.2.2.2.2.2.2.2.2.2.2.1, σ.2.2.2.2.2.2.2.2.2.2.2.2.2.1, σ.2.2.2.2.2.2.2.2.2.2.2.2.2.2.1, σ.2.2.2.2.2.2.2.2.2.2.2.2.2.2.2.1, σ.2.2.2.2.2.2.2.2.2.2.2.2.2.2.2.2.1, σ.2.2.2.2.2.2.2.2.2.2.2.2.2.2.2.2.2.1, σ.2.2.2.2.2.2.2.2.2.2.2.2.2.2.2.2.2.2.1, σ.2.2.2.2.2.2.2.2.2.2.2.2.2.2.2.2.2.2.2.1, σ.2.2.2.2.2.2.2.2.2.2.2.2.2.2.2.2.2.2.2.2.1, σ.2.2.2.2.2.2.2.2.2.2.2.2.2.2.2.2.2.2.2.2.2.1, σ.2.2.2.2.2.2.2.2.2.2.2.2.2.2.2.2.2.2.2.2.2.2.1, v, σ.2.2.2.2.2.2.2.2.2.2.2.2.2.2.2.2.2.2.2.2.2.2.2.2)
noncomputable def ms_wh (σ : SM) (v : Nat → Int32) : SM := (σ.1, σ.2.1, σ.2.2.1, σ.2.2.2.1, σ.2.2.2.2.1, σ.2.2.2.2.2.1, σ.2.2.2.2.2.2.1, σ.2.2.2.2.2.2.2.1, σ.2.2.2.2.2.2.2.2.1, σ.2.2.2.2.2.2.2.2.2.1, σ.2.2.2.2.2.2.2.2.2.2.1, σ.2.2.2.2.2.2.2.2.2.2.2.1, σ.2.2.2.2.2.2.2.2.2.2.2.2.1, σ.2.2.2.2.2.2.2.2.2.2.2.2.2.1, σ.2.2.2.2.2.2.2.2.2.2.2.2.2.2.1, σ.2.2.2.2.2.2.2.2.2.2.2.2.2.2.2.1, σ.2.2.2.2.2.2.2.2.2.2.2.2.2.2.2.2.1, σ.2.2.2.2.2.2.2.2.2.2.2.2.2.2.2.2.2.1, σ.2.2.2.2.2.2.2.2.2.2.2.2.2.2.2.2.2.2.1, σ.2.2.2.2.2.2.2.2.2.2.2.2.2.2.2.2.2.2.2.1, σ.2.2.2.2.2.2.2.2.2.2.2.2.2.2.2.2.2.2.2.2.1, σ.2.2.2.2.2.2.2.2.2.2.2.2.2.2.2.2.2.2.2.2.2.1, σ.2.2.2.2.2.2.2.2.2.2.2.2.2.2.2.2.2.2.2.2.2.2.1, σ.2.2.2.2.2.2.2.2.2.2.2.2.2.2.2.2.2.2.2.2.2.2.2.1, v, σ.2.2.2.2.2.2.2.2.2.2.2.2.2.2.2.2.2.2.2.2.2.2.2.2.2)
noncomputable def ms_sg (σ : SM) (v : Nat → Int32) : SM := (σ.1, σ.2.1, σ.2.2.1, σ.2.2.2.1, σ.2.2.2.2.1, σ.2.2.2.2.2.1, σ.2.2.2.2.2.2.1, σ.2.2.2.2.2.2.2.1, σ.2.2.2.2.2.2.2.2.1, σ.2.2.2.2.2.2.2.2.2.1, σ.2.2.2.2.2.2.2.2.2.2.1, σ.2.2.2.2.2.2.2.2.2.2.2.1, σ.2.2.2.2.2.2.2.2.2.2.2.2.1, σ.2.2.2.2.2.2.2.2.2.2.2.2.2.1, σ.2.2.2.2.2.2.2.2.2.2.2.2.2.2.1, σ.2.2.2.2.2.2.2.2.2.2.2.2.2.2.2.1, σ.2.2.2.2.2.2.2.2.2.2.2.2.2.2.2.2.1, σ.2.2.2.2.2.2.2.2.2.2.2.2.2.2.2.2.2.1, σ.2.2.2.2.2.2.2.2.2.2.2.2.2.2.2.2.2.2.1, σ.2.2.2.2.2.2.2.2.2.2.2.2.2.2.2.2.2.2.2.1, σ.2.2.2.2.2.2.2.2.2.2.2.2.2.2.2.2.2.2.2.2.1, σ.2.2.2.2.2.2.2.2.2.2.2.2.2.2.2.2.2.2.2.2.2.1, σ.2.2.2.2.2.2.2.2.2.2.2.2.2.2.2.2.2.2.2.2.2.2.1, σ.2.2.2.2.2.2.2.2.2.2.2.2.2.2.2.2.2.2.2.2.2.2.2.1, σ.2.2.2.2.2.2.2.2.2.2.2.2.2.2.2.2.2.2.2.2.2.2.2.2.1, v, σ.2.2.2.2.2.2.2.2.2.2.2.2.2.2.2.2.2.2.2.2.2.2.2.2.2.2)
noncomputable def ms_va (σ : SM) (v : Nat → Int64) : SM := (σ.1, σ.2.1, σ.2.2.1, σ.2.2.2.1, σ.2.2.2.2.1, σ.2.2.2.2.2.1, σ.2.2.2.2.2.2.1, σ.2.2.2.2.2.2.2.1, σ.2.2.2.2.2.2.2.2.1, σ.2.2.2.2.2.2.2.2.2.1, σ.2.2.2.2.2.2.2.2.2.2.1, σ.2.2.2.2.2.2.2.2.2.2.2.1, σ.2.2.2.2.2.2.2.2.2.2.2.2.1, σ.2.2.2.2.2.2.2.2.2.2.2.2.2.1, σ.2.2.2.2.2.2.2.2.2.2.2.2.2.2.1, σ.2.2.2.2.2.2.2.2.2.2.2.2.2.2.2.1, σ.2.2.2.2.2.2.2.2.2.2.2.2.2.2.2.2.1, σ.2.2.2.2.2.2.2.2.2.2.2.2.2.2.2.2.2.1, σ.2.2.2.2.2.2.2.2.2.2.2.2.2.2.2.2.2.2.1, σ.2.2.2.2.2.2.2.2.2.2.2.2.2.2.2.2.2.2.2.1, σ.2.2.2.2.2.2.2.2.2.2.2.2.2.2.2.2.2.2.2.2.1, σ.2.2.2.2.2.2.2.2.2.2.2.2.2.2.2.2.2.2.2.2.2.1, σ.2.2.2.2.2.2.2.2.2.2.2.2.2.2.2.2.2.2.2.2.2.2.1, σ.2.2.2.2.2.2.2.2.2.2.2.2.2.2.2.2.2.2.2.2.2.2.2.1, σ.2.2.2.2.2.2.2.2.2.2.2.2.2.2.2.2.2.2.2.2.2.2.2.2.1, σ.2.2.2.2.2.2.2.2.2.2.2.2.2.2.2.2.2.2.2.2.2.2.2.2.2.1, v, σ.2.2.2.2.2.2.2.2.2.2.2.2.2.2.2.2.2.2.2.2.2.2.2.2.2.2.2)
noncomputable def ms_fa (σ : SM) (v : Int32) : SM := (σ.1, σ.2.1, σ.2.2.1, σ.2.2.2.1, σ.2.2.2.2.1, σ.2.2.2.2.2.1, σ.2.2.2.2.2.2.1, σ.2.2.2.2.2.2.2.1, σ.2.2.2.2.2.2.2.2.1, σ.2.2.2.2.2.2.2.2.2.1, σ.2.2.2.2.2.2.2.2.2.2.1, σ.2.2.2.2.2.2.2.2.2.2.2.1, σ.2.2.2.2.2.2.2.2.2.2.2.2.1, σ.2.2.2.2.2.2.2.2.2.2.2.2.2.1, σ.2.2.2.2.2.2.2.2.2.2.2.2.2.2.1, σ.2.2.2.2.2.2.2.2.2.2.2.2.2.2.2.1, σ.2.2.2.2.2.2.2.2.2.2.2.2.2.2.2.2.1, σ.2.2.2.2.2.2.2.2.2.2.2.2.2.2.2.2.2.1, σ.2.2.2.2.2.2.2.2.2.2.2.2.2.2.2.2.2.2.1, σ.2.2.2.2.2.2.2.2.2.2.2.2.2.2.2.2.2.2.2.1, σ.2.2.2.2.2.2.2.2.2.2.2.2.2.2.2.2.2.2.2.2.1, σ.2.2.2.2.2.2.2.2.2.2.2.2.2.2.2.2.2.2.2.2.2.1, σ.2.2.2.2.2.2.2.2.2.2.2.2.2.2.2.2.2.2.2.2.2.2.1, σ.2.2.2.2.2.2.2.2.2.2.2.2.2.2.2.2.2.2.2.2.2.2.2.1, σ.2.2.2.2.2.2.2.2.2.2.2.2.2.2.2.2.2.2.2.2.2.2.2.2.1, σ.2.2.2.2.2.2.2.2.2.2.2.2.2.2.2.2.2.2.2.2.2.2.2.2.2.1, σ.2.2.2.2.2.2.2.2.2.2.2.2.2.2.2.2.2.2.2.2.2.2.2.2.2.2.1, v)
theorem mw_su (σ : SM) (v : Nat → Int64) : m_su (ms_su σ v) = v := rfl
theorem mr_su_co (σ : SM) (v : Nat → Int32) : m_su (ms_co σ v) = m_su σ := rfl
theorem mr_su_many (σ : SM) (v : Int32) : m_su (ms_many σ v) = m_su σ := rfl
theorem mr_su_so (σ : SM) (v : Nat → Int32) : m_su (ms_so σ v) = m_su σ := rfl
theorem mr_su_ki (σ : SM) (v : Nat → Int32) : m_su (ms_ki σ v) = m_su σ := rfl
theorem mr_su_as (σ : SM) (v : Nat → Int32) : m_su (ms_as σ v) = m_su σ := rfl
theorem mr_su_bs (σ : SM) (v : Nat → Int32) : m_su (ms_bs σ v) = m_su σ := rfl
theorem mr_su_cs (σ : SM) (v : Nat → Int64) : m_su (ms_cs σ v) = m_su σ := rfl
theorem mr_su_fo (σ : SM) (v : Nat → Int32) : m_su (ms_fo σ v) = m_su σ := rfl
theorem mr_su_ot (σ : SM) (v : Nat → Int32) : m_su (ms_ot σ v) = m_su σ := rfl
theorem mr_su_le (σ : SM) (v : Nat → Int32) : m_su (ms_le σ v) = m_su σ := rfl
theorem mr_su_st (σ : SM) (v : Nat → Int32) : m_su (ms_st σ v) = m_su σ := rfl
theorem mr_su_sz (σ : SM) (v : Int32) : m_su (ms_sz σ v) = m_su σ := rfl
theorem mr_su_qk (σ : SM) (v : Nat → Int32) : m_su (ms_qk σ v) = m_su σ := rfl
theorem mr_su_qv (σ : SM) (v : Nat → Int64) : m_su (ms_qv σ v) = m_su σ := rfl
theorem mr_su_tk (σ : SM) (v : Int32) : m_su (ms_tk σ v) = m_su σ := rfl
theorem mr_su_fe (σ : SM) (v : Int32) : m_su (ms_fe σ v) = m_su σ := rfl
theorem mr_su_kp (σ : SM) (v : Int32) : m_su (ms_kp σ v) = m_su σ := rfl
theorem mr_su_kk (σ : SM) (v : Nat → Int32) : m_su (ms_kk σ v) = m_su σ := rfl
theorem mr_su_kf (σ : SM) (v : Nat → Int32) : m_su (ms_kf σ v) = m_su σ := rfl
theorem mr_su_kv (σ : SM) (v : Nat → Int64) : m_su (ms_kv σ v) = m_su σ := rfl
theorem mr_su_la (σ : SM) (v : Int32) : m_su (ms_la σ v) = m_su σ := rfl
theorem mr_su_tp (σ : SM) (v : Int32) : m_su (ms_tp σ v) = m_su σ := rfl
theorem mr_su_bg (σ : SM) (v : Int32) : m_su (ms_bg σ v) = m_su σ := rfl
theorem mr_su_wh (σ : SM) (v : Nat → Int32) : m_su (ms_wh σ v) = m_su σ := rfl
theorem mr_su_sg (σ : SM) (v : Nat → Int32) : m_su (ms_sg σ v) = m_su σ := rfl
theorem mr_su_va (σ : SM) (v : Nat → Int64) : m_su (ms_va σ v) = m_su σ := rfl
theorem mr_su_fa (σ : SM) (v : Int32) : m_su (ms_fa σ v) = m_su σ := rfl
theorem mw_co (σ : SM) (v : Nat → Int32) : m_co (ms_co σ v) = v := rfl
theorem mr_co_su (σ : SM) (v : Nat → Int64) : m_co (ms_su σ v) = m_co σ := rfl
theorem mr_co_many (σ : SM) (v : Int32) : m_co (ms_many σ v) = m_co σ := rfl
theorem mr_co_so (σ : SM) (v : Nat → Int32) : m_co (ms_so σ v) = m_co σ := rfl
theorem mr_co_ki (σ : SM) (v : Nat → Int32) : m_co (ms_ki σ v) = m_co σ := rfl
theorem mr_co_as (σ : SM) (v : Nat → Int32) : m_co (ms_as σ v) = m_co σ := rfl
theorem mr_co_bs (σ : SM) (v : Nat → Int32) : m_co (ms_bs σ v) = m_co σ := rfl
theorem mr_co_cs (σ : SM) (v : Nat → Int64) : m_co (ms_cs σ v) = m_co σ := rfl
theorem mr_co_fo (σ : SM) (v : Nat → Int32) : m_co (ms_fo σ v) = m_co σ := rfl
theorem mr_co_ot (σ : SM) (v : Nat → Int32) : m_co (ms_ot σ v) = m_co σ := rfl
theorem mr_co_le (σ : SM) (v : Nat → Int32) : m_co (ms_le σ v) = m_co σ := rfl
theorem mr_co_st (σ : SM) (v : Nat → Int32) : m_co (ms_st σ v) = m_co σ := rfl
theorem mr_co_sz (σ : SM) (v : Int32) : m_co (ms_sz σ v) = m_co σ := rfl
theorem mr_co_qk (σ : SM) (v : Nat → Int32) : m_co (ms_qk σ v) = m_co σ := rfl
theorem mr_co_qv (σ : SM) (v : Nat → Int64) : m_co (ms_qv σ v) = m_co σ := rfl
theorem mr_co_tk (σ : SM) (v : Int32) : m_co (ms_tk σ v) = m_co σ := rfl
theorem mr_co_fe (σ : SM) (v : Int32) : m_co (ms_fe σ v) = m_co σ := rfl
theorem mr_co_kp (σ : SM) (v : Int32) : m_co (ms_kp σ v) = m_co σ := rfl
theorem mr_co_kk (σ : SM) (v : Nat → Int32) : m_co (ms_kk σ v) = m_co σ := rfl
theorem mr_co_kf (σ : SM) (v : Nat → Int32) : m_co (ms_kf σ v) = m_co σ := rfl
theorem mr_co_kv (σ : SM) (v : Nat → Int64) : m_co (ms_kv σ v) = m_co σ := rfl
theorem mr_co_la (σ : SM) (v : Int32) : m_co (ms_la σ v) = m_co σ := rfl
theorem mr_co_tp (σ : SM) (v : Int32) : m_co (ms_tp σ v) = m_co σ := rfl
theorem mr_co_bg (σ : SM) (v : Int32) : m_co (ms_bg σ v) = m_co σ := rfl
theorem mr_co_wh (σ : SM) (v : Nat → Int32) : m_co (ms_wh σ v) = m_co σ := rfl
theorem mr_co_sg (σ : SM) (v : Nat → Int32) : m_co (ms_sg σ v) = m_co σ := rfl
theorem mr_co_va (σ : SM) (v : Nat → Int64) : m_co (ms_va σ v) = m_co σ := rfl
theorem mr_co_fa (σ : SM) (v : Int32) : m_co (ms_fa σ v) = m_co σ := rfl
theorem mw_many (σ : SM) (v : Int32) : m_many (ms_many σ v) = v := rfl
theorem mr_many_su (σ : SM) (v : Nat → Int64) : m_many (ms_su σ v) = m_many σ := rfl
theorem mr_many_co (σ : SM) (v : Nat → Int32) : m_many (ms_co σ v) = m_many σ := rfl
theorem mr_many_so (σ : SM) (v : Nat → Int32) : m_many (ms_so σ v) = m_many σ := rfl
theorem mr_many_ki (σ : SM) (v : Nat → Int32) : m_many (ms_ki σ v) = m_many σ := rfl
theorem mr_many_as (σ : SM) (v : Nat → Int32) : m_many (ms_as σ v) = m_many σ := rfl
theorem mr_many_bs (σ : SM) (v : Nat → Int32) : m_many (ms_bs σ v) = m_many σ := rfl
theorem mr_many_cs (σ : SM) (v : Nat → Int64) : m_many (ms_cs σ v) = m_many σ := rfl
theorem mr_many_fo (σ : SM) (v : Nat → Int32) : m_many (ms_fo σ v) = m_many σ := rfl
theorem mr_many_ot (σ : SM) (v : Nat → Int32) : m_many (ms_ot σ v) = m_many σ := rfl
theorem mr_many_le (σ : SM) (v : Nat → Int32) : m_many (ms_le σ v) = m_many σ := rfl
theorem mr_many_st (σ : SM) (v : Nat → Int32) : m_many (ms_st σ v) = m_many σ := rfl
theorem mr_many_sz (σ : SM) (v : Int32) : m_many (ms_sz σ v) = m_many σ := rfl
theorem mr_many_qk (σ : SM) (v : Nat → Int32) : m_many (ms_qk σ v) = m_many σ := rfl
theorem mr_many_qv (σ : SM) (v : Nat → Int64) : m_many (ms_qv σ v) = m_many σ := rfl
theorem mr_many_tk (σ : SM) (v : Int32) : m_many (ms_tk σ v) = m_many σ := rfl
theorem mr_many_fe (σ : SM) (v : Int32) : m_many (ms_fe σ v) = m_many σ := rfl
theorem mr_many_kp (σ : SM) (v : Int32) : m_many (ms_kp σ v) = m_many σ := rfl
theorem mr_many_kk (σ : SM) (v : Nat → Int32) : m_many (ms_kk σ v) = m_many σ := rfl
theorem mr_many_kf (σ : SM) (v : Nat → Int32) : m_many (ms_kf σ v) = m_many σ := rfl
theorem mr_many_kv (σ : SM) (v : Nat → Int64) : m_many (ms_kv σ v) = m_many σ := rfl
theorem mr_many_la (σ : SM) (v : Int32) : m_many (ms_la σ v) = m_many σ := rfl
theorem mr_many_tp (σ : SM) (v : Int32) : m_many (ms_tp σ v) = m_many σ := rfl
theorem mr_many_bg (σ : SM) (v : Int32) : m_many (ms_bg σ v) = m_many σ := rfl
theorem mr_many_wh (σ : SM) (v : Nat → Int32) : m_many (ms_wh σ v) = m_many σ := rfl
theorem mr_many_sg (σ : SM) (v : Nat → Int32) : m_many (ms_sg σ v) = m_many σ := rfl
theorem mr_many_va (σ : SM) (v : Nat → Int64) : m_many (ms_va σ v) = m_many σ := rfl
theorem mr_many_fa (σ : SM) (v : Int32) : m_many (ms_fa σ v) = m_many σ := rfl
theorem mw_so (σ : SM) (v : Nat → Int32) : m_so (ms_so σ v) = v := rfl
theorem mr_so_su (σ : SM) (v : Nat → Int64) : m_so (ms_su σ v) = m_so σ := rfl
theorem mr_so_co (σ : SM) (v : Nat → Int32) : m_so (ms_co σ v) = m_so σ := rfl
theorem mr_so_many (σ : SM) (v : Int32) : m_so (ms_many σ v) = m_so σ := rfl
theorem mr_so_ki (σ : SM) (v : Nat → Int32) : m_so (ms_ki σ v) = m_so σ := rfl
theorem mr_so_as (σ : SM) (v : Nat → Int32) : m_so (ms_as σ v) = m_so σ := rfl
theorem mr_so_bs (σ : SM) (v : Nat → Int32) : m_so (ms_bs σ v) = m_so σ := rfl
theorem mr_so_cs (σ : SM) (v : Nat → Int64) : m_so (ms_cs σ v) = m_so σ := rfl
theorem mr_so_fo (σ : SM) (v : Nat → Int32) : m_so (ms_fo σ v) = m_so σ := rfl
theorem mr_so_ot (σ : SM) (v : Nat → Int32) : m_so (ms_ot σ v) = m_so σ := rfl
theorem mr_so_le (σ : SM) (v : Nat → Int32) : m_so (ms_le σ v) = m_so σ := rfl
theorem mr_so_st (σ : SM) (v : Nat → Int32) : m_so (ms_st σ v) = m_so σ := rfl
theorem mr_so_sz (σ : SM) (v : Int32) : m_so (ms_sz σ v) = m_so σ := rfl
theorem mr_so_qk (σ : SM) (v : Nat → Int32) : m_so (ms_qk σ v) = m_so σ := rfl
theorem mr_so_qv (σ : SM) (v : Nat → Int64) : m_so (ms_qv σ v) = m_so σ := rfl
theorem mr_so_tk (σ : SM) (v : Int32) : m_so (ms_tk σ v) = m_so σ := rfl
theorem mr_so_fe (σ : SM) (v : Int32) : m_so (ms_fe σ v) = m_so σ := rfl
theorem mr_so_kp (σ : SM) (v : Int32) : m_so (ms_kp σ v) = m_so σ := rfl
theorem mr_so_kk (σ : SM) (v : Nat → Int32) : m_so (ms_kk σ v) = m_so σ := rfl
theorem mr_so_kf (σ : SM) (v : Nat → Int32) : m_so (ms_kf σ v) = m_so σ := rfl
theorem mr_so_kv (σ : SM) (v : Nat → Int64) : m_so (ms_kv σ v) = m_so σ := rfl
theorem mr_so_la (σ : SM) (v : Int32) : m_so (ms_la σ v) = m_so σ := rfl
theorem mr_so_tp (σ : SM) (v : Int32) : m_so (ms_tp σ v) = m_so σ := rfl
theorem mr_so_bg (σ : SM) (v : Int32) : m_so (ms_bg σ v) = m_so σ := rfl
theorem mr_so_wh (σ : SM) (v : Nat → Int32) : m_so (ms_wh σ v) = m_so σ := rfl
theorem mr_so_sg (σ : SM) (v : Nat → Int32) : m_so (ms_sg σ v) = m_so σ := rfl
theorem mr_so_va (σ : SM) (v : Nat → Int64) : m_so (ms_va σ v) = m_so σ := rfl
theorem mr_so_fa (σ : SM) (v : Int32) : m_so (ms_fa σ v) = m_so σ := rfl
theorem mw_ki (σ : SM) (v : Nat → Int32) : m_ki (ms_ki σ v) = v := rfl
theorem mr_ki_su (σ : SM) (v : Nat → Int64) : m_ki (ms_su σ v) = m_ki σ := rfl
theorem mr_ki_co (σ : SM) (v : Nat → Int32) : m_ki (ms_co σ v) = m_ki σ := rfl
theorem mr_ki_many (σ : SM) (v : Int32) : m_ki (ms_many σ v) = m_ki σ := rfl
theorem mr_ki_so (σ : SM) (v : Nat → Int32) : m_ki (ms_so σ v) = m_ki σ := rfl
theorem mr_ki_as (σ : SM) (v : Nat → Int32) : m_ki (ms_as σ v) = m_ki σ := rfl
theorem mr_ki_bs (σ : SM) (v : Nat → Int32) : m_ki (ms_bs σ v) = m_ki σ := rfl
theorem mr_ki_cs (σ : SM) (v : Nat → Int64) : m_ki (ms_cs σ v) = m_ki σ := rfl
theorem mr_ki_fo (σ : SM) (v : Nat → Int32) : m_ki (ms_fo σ v) = m_ki σ := rfl
theorem mr_ki_ot (σ : SM) (v : Nat → Int32) : m_ki (ms_ot σ v) = m_ki σ := rfl
theorem mr_ki_le (σ : SM) (v : Nat → Int32) : m_ki (ms_le σ v) = m_ki σ := rfl
theorem mr_ki_st (σ : SM) (v : Nat → Int32) : m_ki (ms_st σ v) = m_ki σ := rfl
theorem mr_ki_sz (σ : SM) (v : Int32) : m_ki (ms_sz σ v) = m_ki σ := rfl
theorem mr_ki_qk (σ : SM) (v : Nat → Int32) : m_ki (ms_qk σ v) = m_ki σ := rfl
theorem mr_ki_qv (σ : SM) (v : Nat → Int64) : m_ki (ms_qv σ v) = m_ki σ := rfl
theorem mr_ki_tk (σ : SM) (v : Int32) : m_ki (ms_tk σ v) = m_ki σ := rfl
theorem mr_ki_fe (σ : SM) (v : Int32) : m_ki (ms_fe σ v) = m_ki σ := rfl
theorem mr_ki_kp (σ : SM) (v : Int32) : m_ki (ms_kp σ v) = m_ki σ := rfl
theorem mr_ki_kk (σ : SM) (v : Nat → Int32) : m_ki (ms_kk σ v) = m_ki σ := rfl
theorem mr_ki_kf (σ : SM) (v : Nat → Int32) : m_ki (ms_kf σ v) = m_ki σ := rfl
theorem mr_ki_kv (σ : SM) (v : Nat → Int64) : m_ki (ms_kv σ v) = m_ki σ := rfl
theorem mr_ki_la (σ : SM) (v : Int32) : m_ki (ms_la σ v) = m_ki σ := rfl
theorem mr_ki_tp (σ : SM) (v : Int32) : m_ki (ms_tp σ v) = m_ki σ := rfl
theorem mr_ki_bg (σ : SM) (v : Int32) : m_ki (ms_bg σ v) = m_ki σ := rfl
theorem mr_ki_wh (σ : SM) (v : Nat → Int32) : m_ki (ms_wh σ v) = m_ki σ := rfl
theorem mr_ki_sg (σ : SM) (v : Nat → Int32) : m_ki (ms_sg σ v) = m_ki σ := rfl
theorem mr_ki_va (σ : SM) (v : Nat → Int64) : m_ki (ms_va σ v) = m_ki σ := rfl
theorem mr_ki_fa (σ : SM) (v : Int32) : m_ki (ms_fa σ v) = m_ki σ := rfl
theorem mw_as (σ : SM) (v : Nat → Int32) : m_as (ms_as σ v) = v := rfl
theorem mr_as_su (σ : SM) (v : Nat → Int64) : m_as (ms_su σ v) = m_as σ := rfl
theorem mr_as_co (σ : SM) (v : Nat → Int32) : m_as (ms_co σ v) = m_as σ := rfl
theorem mr_as_many (σ : SM) (v : Int32) : m_as (ms_many σ v) = m_as σ := rfl
theorem mr_as_so (σ : SM) (v : Nat → Int32) : m_as (ms_so σ v) = m_as σ := rfl
theorem mr_as_ki (σ : SM) (v : Nat → Int32) : m_as (ms_ki σ v) = m_as σ := rfl
theorem mr_as_bs (σ : SM) (v : Nat → Int32) : m_as (ms_bs σ v) = m_as σ := rfl
theorem mr_as_cs (σ : SM) (v : Nat → Int64) : m_as (ms_cs σ v) = m_as σ := rfl
theorem mr_as_fo (σ : SM) (v : Nat → Int32) : m_as (ms_fo σ v) = m_as σ := rfl
theorem mr_as_ot (σ : SM) (v : Nat → Int32) : m_as (ms_ot σ v) = m_as σ := rfl
theorem mr_as_le (σ : SM) (v : Nat → Int32) : m_as (ms_le σ v) = m_as σ := rfl
theorem mr_as_st (σ : SM) (v : Nat → Int32) : m_as (ms_st σ v) = m_as σ := rfl
theorem mr_as_sz (σ : SM) (v : Int32) : m_as (ms_sz σ v) = m_as σ := rfl
theorem mr_as_qk (σ : SM) (v : Nat → Int32) : m_as (ms_qk σ v) = m_as σ := rfl
theorem mr_as_qv (σ : SM) (v : Nat → Int64) : m_as (ms_qv σ v) = m_as σ := rfl
theorem mr_as_tk (σ : SM) (v : Int32) : m_as (ms_tk σ v) = m_as σ := rfl
theorem mr_as_fe (σ : SM) (v : Int32) : m_as (ms_fe σ v) = m_as σ := rfl
theorem mr_as_kp (σ : SM) (v : Int32) : m_as (ms_kp σ v) = m_as σ := rfl
theorem mr_as_kk (σ : SM) (v : Nat → Int32) : m_as (ms_kk σ v) = m_as σ := rfl
theorem mr_as_kf (σ : SM) (v : Nat → Int32) : m_as (ms_kf σ v) = m_as σ := rfl
theorem mr_as_kv (σ : SM) (v : Nat → Int64) : m_as (ms_kv σ v) = m_as σ := rfl
theorem mr_as_la (σ : SM) (v : Int32) : m_as (ms_la σ v) = m_as σ := rfl
theorem mr_as_tp (σ : SM) (v : Int32) : m_as (ms_tp σ v) = m_as σ := rfl
theorem mr_as_bg (σ : SM) (v : Int32) : m_as (ms_bg σ v) = m_as σ := rfl
theorem mr_as_wh (σ : SM) (v : Nat → Int32) : m_as (ms_wh σ v) = m_as σ := rfl
theorem mr_as_sg (σ : SM) (v : Nat → Int32) : m_as (ms_sg σ v) = m_as σ := rfl
theorem mr_as_va (σ : SM) (v : Nat → Int64) : m_as (ms_va σ v) = m_as σ := rfl
theorem mr_as_fa (σ : SM) (v : Int32) : m_as (ms_fa σ v) = m_as σ := rfl
theorem mw_bs (σ : SM) (v : Nat → Int32) : m_bs (ms_bs σ v) = v := rfl
theorem mr_bs_su (σ : SM) (v : Nat → Int64) : m_bs (ms_su σ v) = m_bs σ := rfl
theorem mr_bs_co (σ : SM) (v : Nat → Int32) : m_bs (ms_co σ v) = m_bs σ := rfl
theorem mr_bs_many (σ : SM) (v : Int32) : m_bs (ms_many σ v) = m_bs σ := rfl
theorem mr_bs_so (σ : SM) (v : Nat → Int32) : m_bs (ms_so σ v) = m_bs σ := rfl
theorem mr_bs_ki (σ : SM) (v : Nat → Int32) : m_bs (ms_ki σ v) = m_bs σ := rfl
theorem mr_bs_as (σ : SM) (v : Nat → Int32) : m_bs (ms_as σ v) = m_bs σ := rfl
theorem mr_bs_cs (σ : SM) (v : Nat → Int64) : m_bs (ms_cs σ v) = m_bs σ := rfl
theorem mr_bs_fo (σ : SM) (v : Nat → Int32) : m_bs (ms_fo σ v) = m_bs σ := rfl
theorem mr_bs_ot (σ : SM) (v : Nat → Int32) : m_bs (ms_ot σ v) = m_bs σ := rfl
theorem mr_bs_le (σ : SM) (v : Nat → Int32) : m_bs (ms_le σ v) = m_bs σ := rfl
theorem mr_bs_st (σ : SM) (v : Nat → Int32) : m_bs (ms_st σ v) = m_bs σ := rfl
theorem mr_bs_sz (σ : SM) (v : Int32) : m_bs (ms_sz σ v) = m_bs σ := rfl
theorem mr_bs_qk (σ : SM) (v : Nat → Int32) : m_bs (ms_qk σ v) = m_bs σ := rfl
theorem mr_bs_qv (σ : SM) (v : Nat → Int64) : m_bs (ms_qv σ v) = m_bs σ := rfl
theorem mr_bs_tk (σ : SM) (v : Int32) : m_bs (ms_tk σ v) = m_bs σ := rfl
theorem mr_bs_fe (σ : SM) (v : Int32) : m_bs (ms_fe σ v) = m_bs σ := rfl
theorem mr_bs_kp (σ : SM) (v : Int32) : m_bs (ms_kp σ v) = m_bs σ := rfl
theorem mr_bs_kk (σ : SM) (v : Nat → Int32) : m_bs (ms_kk σ v) = m_bs σ := rfl
theorem mr_bs_kf (σ : SM) (v : Nat → Int32) : m_bs (ms_kf σ v) = m_bs σ := rfl
theorem mr_bs_kv (σ : SM) (v : Nat → Int64) : m_bs (ms_kv σ v) = m_bs σ := rfl
theorem mr_bs_la (σ : SM) (v : Int32) : m_bs (ms_la σ v) = m_bs σ := rfl
theorem mr_bs_tp (σ : SM) (v : Int32) : m_bs (ms_tp σ v) = m_bs σ := rfl
theorem mr_bs_bg (σ : SM) (v : Int32) : m_bs (ms_bg σ v) = m_bs σ := rfl
theorem mr_bs_wh (σ : SM) (v : Nat → Int32) : m_bs (ms_wh σ v) = m_bs σ := rfl
theorem mr_bs_sg (σ : SM) (v : Nat → Int32) : m_bs (ms_sg σ v) = m_bs σ := rfl
theorem mr_bs_va (σ : SM) (v : Nat → Int64) : m_bs (ms_va σ v) = m_bs σ := rfl
theorem mr_bs_fa (σ : SM) (v : Int32) : m_bs (ms_fa σ v) = m_bs σ := rfl
theorem mw_cs (σ : SM) (v : Nat → Int64) : m_cs (ms_cs σ v) = v := rfl
theorem mr_cs_su (σ : SM) (v : Nat → Int64) : m_cs (ms_su σ v) = m_cs σ := rfl
theorem mr_cs_co (σ : SM) (v : Nat → Int32) : m_cs (ms_co σ v) = m_cs σ := rfl
theorem mr_cs_many (σ : SM) (v : Int32) : m_cs (ms_many σ v) = m_cs σ := rfl
theorem mr_cs_so (σ : SM) (v : Nat → Int32) : m_cs (ms_so σ v) = m_cs σ := rfl
theorem mr_cs_ki (σ : SM) (v : Nat → Int32) : m_cs (ms_ki σ v) = m_cs σ := rfl
theorem mr_cs_as (σ : SM) (v : Nat → Int32) : m_cs (ms_as σ v) = m_cs σ := rfl
theorem mr_cs_bs (σ : SM) (v : Nat → Int32) : m_cs (ms_bs σ v) = m_cs σ := rfl
theorem mr_cs_fo (σ : SM) (v : Nat → Int32) : m_cs (ms_fo σ v) = m_cs σ := rfl
theorem mr_cs_ot (σ : SM) (v : Nat → Int32) : m_cs (ms_ot σ v) = m_cs σ := rfl
theorem mr_cs_le (σ : SM) (v : Nat → Int32) : m_cs (ms_le σ v) = m_cs σ := rfl
theorem mr_cs_st (σ : SM) (v : Nat → Int32) : m_cs (ms_st σ v) = m_cs σ := rfl
theorem mr_cs_sz (σ : SM) (v : Int32) : m_cs (ms_sz σ v) = m_cs σ := rfl
theorem mr_cs_qk (σ : SM) (v : Nat → Int32) : m_cs (ms_qk σ v) = m_cs σ := rfl
theorem mr_cs_qv (σ : SM) (v : Nat → Int64) : m_cs (ms_qv σ v) = m_cs σ := rfl
theorem mr_cs_tk (σ : SM) (v : Int32) : m_cs (ms_tk σ v) = m_cs σ := rfl
theorem mr_cs_fe (σ : SM) (v : Int32) : m_cs (ms_fe σ v) = m_cs σ := rfl
theorem mr_cs_kp (σ : SM) (v : Int32) : m_cs (ms_kp σ v) = m_cs σ := rfl
theorem mr_cs_kk (σ : SM) (v : Nat → Int32) : m_cs (ms_kk σ v) = m_cs σ := rfl
theorem mr_cs_kf (σ : SM) (v : Nat → Int32) : m_cs (ms_kf σ v) = m_cs σ := rfl
theorem mr_cs_kv (σ : SM) (v : Nat → Int64) : m_cs (ms_kv σ v) = m_cs σ := rfl
theorem mr_cs_la (σ : SM) (v : Int32) : m_cs (ms_la σ v) = m_cs σ := rfl
theorem mr_cs_tp (σ : SM) (v : Int32) : m_cs (ms_tp σ v) = m_cs σ := rfl
theorem mr_cs_bg (σ : SM) (v : Int32) : m_cs (ms_bg σ v) = m_cs σ := rfl
theorem mr_cs_wh (σ : SM) (v : Nat → Int32) : m_cs (ms_wh σ v) = m_cs σ := rfl
theorem mr_cs_sg (σ : SM) (v : Nat → Int32) : m_cs (ms_sg σ v) = m_cs σ := rfl
theorem mr_cs_va (σ : SM) (v : Nat → Int64) : m_cs (ms_va σ v) = m_cs σ := rfl
theorem mr_cs_fa (σ : SM) (v : Int32) : m_cs (ms_fa σ v) = m_cs σ := rfl
theorem mw_fo (σ : SM) (v : Nat → Int32) : m_fo (ms_fo σ v) = v := rfl
theorem mr_fo_su (σ : SM) (v : Nat → Int64) : m_fo (ms_su σ v) = m_fo σ := rfl
theorem mr_fo_co (σ : SM) (v : Nat → Int32) : m_fo (ms_co σ v) = m_fo σ := rfl
theorem mr_fo_many (σ : SM) (v : Int32) : m_fo (ms_many σ v) = m_fo σ := rfl
theorem mr_fo_so (σ : SM) (v : Nat → Int32) : m_fo (ms_so σ v) = m_fo σ := rfl
theorem mr_fo_ki (σ : SM) (v : Nat → Int32) : m_fo (ms_ki σ v) = m_fo σ := rfl
theorem mr_fo_as (σ : SM) (v : Nat → Int32) : m_fo (ms_as σ v) = m_fo σ := rfl
theorem mr_fo_bs (σ : SM) (v : Nat → Int32) : m_fo (ms_bs σ v) = m_fo σ := rfl
theorem mr_fo_cs (σ : SM) (v : Nat → Int64) : m_fo (ms_cs σ v) = m_fo σ := rfl
theorem mr_fo_ot (σ : SM) (v : Nat → Int32) : m_fo (ms_ot σ v) = m_fo σ := rfl
theorem mr_fo_le (σ : SM) (v : Nat → Int32) : m_fo (ms_le σ v) = m_fo σ := rfl
theorem mr_fo_st (σ : SM) (v : Nat → Int32) : m_fo (ms_st σ v) = m_fo σ := rfl
theorem mr_fo_sz (σ : SM) (v : Int32) : m_fo (ms_sz σ v) = m_fo σ := rfl
theorem mr_fo_qk (σ : SM) (v : Nat → Int32) : m_fo (ms_qk σ v) = m_fo σ := rfl
theorem mr_fo_qv (σ : SM) (v : Nat → Int64) : m_fo (ms_qv σ v) = m_fo σ := rfl
theorem mr_fo_tk (σ : SM) (v : Int32) : m_fo (ms_tk σ v) = m_fo σ := rfl
theorem mr_fo_fe (σ : SM) (v : Int32) : m_fo (ms_fe σ v) = m_fo σ := rfl
theorem mr_fo_kp (σ : SM) (v : Int32) : m_fo (ms_kp σ v) = m_fo σ := rfl
theorem mr_fo_kk (σ : SM) (v : Nat → Int32) : m_fo (ms_kk σ v) = m_fo σ := rfl
theorem mr_fo_kf (σ : SM) (v : Nat → Int32) : m_fo (ms_kf σ v) = m_fo σ := rfl
theorem mr_fo_kv (σ : SM) (v : Nat → Int64) : m_fo (ms_kv σ v) = m_fo σ := rfl
theorem mr_fo_la (σ : SM) (v : Int32) : m_fo (ms_la σ v) = m_fo σ := rfl
theorem mr_fo_tp (σ : SM) (v : Int32) : m_fo (ms_tp σ v) = m_fo σ := rfl
theorem mr_fo_bg (σ : SM) (v : Int32) : m_fo (ms_bg σ v) = m_fo σ := rfl
theorem mr_fo_wh (σ : SM) (v : Nat → Int32) : m_fo (ms_wh σ v) = m_fo σ := rfl
theorem mr_fo_sg (σ : SM) (v : Nat → Int32) : m_fo (ms_sg σ v) = m_fo σ := rfl
theorem mr_fo_va (σ : SM) (v : Nat → Int64) : m_fo (ms_va σ v) = m_fo σ := rfl
theorem mr_fo_fa (σ : SM) (v : Int32) : m_fo (ms_fa σ v) = m_fo σ := rfl
theorem mw_ot (σ : SM) (v : Nat → Int32) : m_ot (ms_ot σ v) = v := rfl
theorem mr_ot_su (σ : SM) (v : Nat → Int64) : m_ot (ms_su σ v) = m_ot σ := rfl
theorem mr_ot_co (σ : SM) (v : Nat → Int32) : m_ot (ms_co σ v) = m_ot σ := rfl
theorem mr_ot_many (σ : SM) (v : Int32) : m_ot (ms_many σ v) = m_ot σ := rfl
theorem mr_ot_so (σ : SM) (v : Nat → Int32) : m_ot (ms_so σ v) = m_ot σ := rfl
theorem mr_ot_ki (σ : SM) (v : Nat → Int32) : m_ot (ms_ki σ v) = m_ot σ := rfl
theorem mr_ot_as (σ : SM) (v : Nat → Int32) : m_ot (ms_as σ v) = m_ot σ := rfl
theorem mr_ot_bs (σ : SM) (v : Nat → Int32) : m_ot (ms_bs σ v) = m_ot σ := rfl
theorem mr_ot_cs (σ : SM) (v : Nat → Int64) : m_ot (ms_cs σ v) = m_ot σ := rfl
theorem mr_ot_fo (σ : SM) (v : Nat → Int32) : m_ot (ms_fo σ v) = m_ot σ := rfl
theorem mr_ot_le (σ : SM) (v : Nat → Int32) : m_ot (ms_le σ v) = m_ot σ := rfl
theorem mr_ot_st (σ : SM) (v : Nat → Int32) : m_ot (ms_st σ v) = m_ot σ := rfl
theorem mr_ot_sz (σ : SM) (v : Int32) : m_ot (ms_sz σ v) = m_ot σ := rfl
theorem mr_ot_qk (σ : SM) (v : Nat → Int32) : m_ot (ms_qk σ v) = m_ot σ := rfl
theorem mr_ot_qv (σ : SM) (v : Nat → Int64) : m_ot (ms_qv σ v) = m_ot σ := rfl
theorem mr_ot_tk (σ : SM) (v : Int32) : m_ot (ms_tk σ v) = m_ot σ := rfl
theorem mr_ot_fe (σ : SM) (v : Int32) : m_ot (ms_fe σ v) = m_ot σ := rfl
theorem mr_ot_kp (σ : SM) (v : Int32) : m_ot (ms_kp σ v) = m_ot σ := rfl
theorem mr_ot_kk (σ : SM) (v : Nat → Int32) : m_ot (ms_kk σ v) = m_ot σ := rfl
theorem mr_ot_kf (σ : SM) (v : Nat → Int32) : m_ot (ms_kf σ v) = m_ot σ := rfl
theorem mr_ot_kv (σ : SM) (v : Nat → Int64) : m_ot (ms_kv σ v) = m_ot σ := rfl
theorem mr_ot_la (σ : SM) (v : Int32) : m_ot (ms_la σ v) = m_ot σ := rfl
theorem mr_ot_tp (σ : SM) (v : Int32) : m_ot (ms_tp σ v) = m_ot σ := rfl
theorem mr_ot_bg (σ : SM) (v : Int32) : m_ot (ms_bg σ v) = m_ot σ := rfl
theorem mr_ot_wh (σ : SM) (v : Nat → Int32) : m_ot (ms_wh σ v) = m_ot σ := rfl
theorem mr_ot_sg (σ : SM) (v : Nat → Int32) : m_ot (ms_sg σ v) = m_ot σ := rfl
theorem mr_ot_va (σ : SM) (v : Nat → Int64) : m_ot (ms_va σ v) = m_ot σ := rfl
theorem mr_ot_fa (σ : SM) (v : Int32) : m_ot (ms_fa σ v) = m_ot σ := rfl
theorem mw_le (σ : SM) (v : Nat → Int32) : m_le (ms_le σ v) = v := rfl
theorem mr_le_su (σ : SM) (v : Nat → Int64) : m_le (ms_su σ v) = m_le σ := rfl
theorem mr_le_co (σ : SM) (v : Nat → Int32) : m_le (ms_co σ v) = m_le σ := rfl
theorem mr_le_many (σ : SM) (v : Int32) : m_le (ms_many σ v) = m_le σ := rfl
theorem mr_le_so (σ : SM) (v : Nat → Int32) : m_le (ms_so σ v) = m_le σ := rfl
theorem mr_le_ki (σ : SM) (v : Nat → Int32) : m_le (ms_ki σ v) = m_le σ := rfl
theorem mr_le_as (σ : SM) (v : Nat → Int32) : m_le (ms_as σ v) = m_le σ := rfl
theorem mr_le_bs (σ : SM) (v : Nat → Int32) : m_le (ms_bs σ v) = m_le σ := rfl
theorem mr_le_cs (σ : SM) (v : Nat → Int64) : m_le (ms_cs σ v) = m_le σ := rfl
theorem mr_le_fo (σ : SM) (v : Nat → Int32) : m_le (ms_fo σ v) = m_le σ := rfl
theorem mr_le_ot (σ : SM) (v : Nat → Int32) : m_le (ms_ot σ v) = m_le σ := rfl
theorem mr_le_st (σ : SM) (v : Nat → Int32) : m_le (ms_st σ v) = m_le σ := rfl
theorem mr_le_sz (σ : SM) (v : Int32) : m_le (ms_sz σ v) = m_le σ := rfl
theorem mr_le_qk (σ : SM) (v : Nat → Int32) : m_le (ms_qk σ v) = m_le σ := rfl
theorem mr_le_qv (σ : SM) (v : Nat → Int64) : m_le (ms_qv σ v) = m_le σ := rfl
theorem mr_le_tk (σ : SM) (v : Int32) : m_le (ms_tk σ v) = m_le σ := rfl
theorem mr_le_fe (σ : SM) (v : Int32) : m_le (ms_fe σ v) = m_le σ := rfl
theorem mr_le_kp (σ : SM) (v : Int32) : m_le (ms_kp σ v) = m_le σ := rfl
theorem mr_le_kk (σ : SM) (v : Nat → Int32) : m_le (ms_kk σ v) = m_le σ := rfl
theorem mr_le_kf (σ : SM) (v : Nat → Int32) : m_le (ms_kf σ v) = m_le σ := rfl
theorem mr_le_kv (σ : SM) (v : Nat → Int64) : m_le (ms_kv σ v) = m_le σ := rfl
theorem mr_le_la (σ : SM) (v : Int32) : m_le (ms_la σ v) = m_le σ := rfl
theorem mr_le_tp (σ : SM) (v : Int32) : m_le (ms_tp σ v) = m_le σ := rfl
theorem mr_le_bg (σ : SM) (v : Int32) : m_le (ms_bg σ v) = m_le σ := rfl
theorem mr_le_wh (σ : SM) (v : Nat → Int32) : m_le (ms_wh σ v) = m_le σ := rfl
theorem mr_le_sg (σ : SM) (v : Nat → Int32) : m_le (ms_sg σ v) = m_le σ := rfl
theorem mr_le_va (σ : SM) (v : Nat → Int64) : m_le (ms_va σ v) = m_le σ := rfl
theorem mr_le_fa (σ : SM) (v : Int32) : m_le (ms_fa σ v) = m_le σ := rfl
theorem mw_st (σ : SM) (v : Nat → Int32) : m_st (ms_st σ v) = v := rfl
theorem mr_st_su (σ : SM) (v : Nat → Int64) : m_st (ms_su σ v) = m_st σ := rfl
theorem mr_st_co (σ : SM) (v : Nat → Int32) : m_st (ms_co σ v) = m_st σ := rfl
theorem mr_st_many (σ : SM) (v : Int32) : m_st (ms_many σ v) = m_st σ := rfl
theorem mr_st_so (σ : SM) (v : Nat → Int32) : m_st (ms_so σ v) = m_st σ := rfl
theorem mr_st_ki (σ : SM) (v : Nat → Int32) : m_st (ms_ki σ v) = m_st σ := rfl
theorem mr_st_as (σ : SM) (v : Nat → Int32) : m_st (ms_as σ v) = m_st σ := rfl
theorem mr_st_bs (σ : SM) (v : Nat → Int32) : m_st (ms_bs σ v) = m_st σ := rfl
theorem mr_st_cs (σ : SM) (v : Nat → Int64) : m_st (ms_cs σ v) = m_st σ := rfl
theorem mr_st_fo (σ : SM) (v : Nat → Int32) : m_st (ms_fo σ v) = m_st σ := rfl
theorem mr_st_ot (σ : SM) (v : Nat → Int32) : m_st (ms_ot σ v) = m_st σ := rfl
theorem mr_st_le (σ : SM) (v : Nat → Int32) : m_st (ms_le σ v) = m_st σ := rfl
theorem mr_st_sz (σ : SM) (v : Int32) : m_st (ms_sz σ v) = m_st σ := rfl
theorem mr_st_qk (σ : SM) (v : Nat → Int32) : m_st (ms_qk σ v) = m_st σ := rfl
theorem mr_st_qv (σ : SM) (v : Nat → Int64) : m_st (ms_qv σ v) = m_st σ := rfl
theorem mr_st_tk (σ : SM) (v : Int32) : m_st (ms_tk σ v) = m_st σ := rfl
theorem mr_st_fe (σ : SM) (v : Int32) : m_st (ms_fe σ v) = m_st σ := rfl
theorem mr_st_kp (σ : SM) (v : Int32) : m_st (ms_kp σ v) = m_st σ := rfl
theorem mr_st_kk (σ : SM) (v : Nat → Int32) : m_st (ms_kk σ v) = m_st σ := rfl
theorem mr_st_kf (σ : SM) (v : Nat → Int32) : m_st (ms_kf σ v) = m_st σ := rfl
theorem mr_st_kv (σ : SM) (v : Nat → Int64) : m_st (ms_kv σ v) = m_st σ := rfl
theorem mr_st_la (σ : SM) (v : Int32) : m_st (ms_la σ v) = m_st σ := rfl
theorem mr_st_tp (σ : SM) (v : Int32) : m_st (ms_tp σ v) = m_st σ := rfl
theorem mr_st_bg (σ : SM) (v : Int32) : m_st (ms_bg σ v) = m_st σ := rfl
theorem mr_st_wh (σ : SM) (v : Nat → Int32) : m_st (ms_wh σ v) = m_st σ := rfl
theorem mr_st_sg (σ : SM) (v : Nat → Int32) : m_st (ms_sg σ v) = m_st σ := rfl
theorem mr_st_va (σ : SM) (v : Nat → Int64) : m_st (ms_va σ v) = m_st σ := rfl
theorem mr_st_fa (σ : SM) (v : Int32) : m_st (ms_fa σ v) = m_st σ := rfl
theorem mw_sz (σ : SM) (v : Int32) : m_sz (ms_sz σ v) = v := rfl
theorem mr_sz_su (σ : SM) (v : Nat → Int64) : m_sz (ms_su σ v) = m_sz σ := rfl
theorem mr_sz_co (σ : SM) (v : Nat → Int32) : m_sz (ms_co σ v) = m_sz σ := rfl
theorem mr_sz_many (σ : SM) (v : Int32) : m_sz (ms_many σ v) = m_sz σ := rfl
theorem mr_sz_so (σ : SM) (v : Nat → Int32) : m_sz (ms_so σ v) = m_sz σ := rfl
theorem mr_sz_ki (σ : SM) (v : Nat → Int32) : m_sz (ms_ki σ v) = m_sz σ := rfl
theorem mr_sz_as (σ : SM) (v : Nat → Int32) : m_sz (ms_as σ v) = m_sz σ := rfl
theorem mr_sz_bs (σ : SM) (v : Nat → Int32) : m_sz (ms_bs σ v) = m_sz σ := rfl
theorem mr_sz_cs (σ : SM) (v : Nat → Int64) : m_sz (ms_cs σ v) = m_sz σ := rfl
theorem mr_sz_fo (σ : SM) (v : Nat → Int32) : m_sz (ms_fo σ v) = m_sz σ := rfl
theorem mr_sz_ot (σ : SM) (v : Nat → Int32) : m_sz (ms_ot σ v) = m_sz σ := rfl
theorem mr_sz_le (σ : SM) (v : Nat → Int32) : m_sz (ms_le σ v) = m_sz σ := rfl
theorem mr_sz_st (σ : SM) (v : Nat → Int32) : m_sz (ms_st σ v) = m_sz σ := rfl
theorem mr_sz_qk (σ : SM) (v : Nat → Int32) : m_sz (ms_qk σ v) = m_sz σ := rfl
theorem mr_sz_qv (σ : SM) (v : Nat → Int64) : m_sz (ms_qv σ v) = m_sz σ := rfl
theorem mr_sz_tk (σ : SM) (v : Int32) : m_sz (ms_tk σ v) = m_sz σ := rfl
theorem mr_sz_fe (σ : SM) (v : Int32) : m_sz (ms_fe σ v) = m_sz σ := rfl
theorem mr_sz_kp (σ : SM) (v : Int32) : m_sz (ms_kp σ v) = m_sz σ := rfl
theorem mr_sz_kk (σ : SM) (v : Nat → Int32) : m_sz (ms_kk σ v) = m_sz σ := rfl
theorem mr_sz_kf (σ : SM) (v : Nat → Int32) : m_sz (ms_kf σ v) = m_sz σ := rfl
theorem mr_sz_kv (σ : SM) (v : Nat → Int64) : m_sz (ms_kv σ v) = m_sz σ := rfl
theorem mr_sz_la (σ : SM) (v : Int32) : m_sz (ms_la σ v) = m_sz σ := rfl
theorem mr_sz_tp (σ : SM) (v : Int32) : m_sz (ms_tp σ v) = m_sz σ := rfl
theorem mr_sz_bg (σ : SM) (v : Int32) : m_sz (ms_bg σ v) = m_sz σ := rfl
theorem mr_sz_wh (σ : SM) (v : Nat → Int32) : m_sz (ms_wh σ v) = m_sz σ := rfl
theorem mr_sz_sg (σ : SM) (v : Nat → Int32) : m_sz (ms_sg σ v) = m_sz σ := rfl
theorem mr_sz_va (σ : SM) (v : Nat → Int64) : m_sz (ms_va σ v) = m_sz σ := rfl
theorem mr_sz_fa (σ : SM) (v : Int32) : m_sz (ms_fa σ v) = m_sz σ := rfl
theorem mw_qk (σ : SM) (v : Nat → Int32) : m_qk (ms_qk σ v) = v := rfl
theorem mr_qk_su (σ : SM) (v : Nat → Int64) : m_qk (ms_su σ v) = m_qk σ := rfl
theorem mr_qk_co (σ : SM) (v : Nat → Int32) : m_qk (ms_co σ v) = m_qk σ := rfl
theorem mr_qk_many (σ : SM) (v : Int32) : m_qk (ms_many σ v) = m_qk σ := rfl
theorem mr_qk_so (σ : SM) (v : Nat → Int32) : m_qk (ms_so σ v) = m_qk σ := rfl
theorem mr_qk_ki (σ : SM) (v : Nat → Int32) : m_qk (ms_ki σ v) = m_qk σ := rfl
theorem mr_qk_as (σ : SM) (v : Nat → Int32) : m_qk (ms_as σ v) = m_qk σ := rfl
theorem mr_qk_bs (σ : SM) (v : Nat → Int32) : m_qk (ms_bs σ v) = m_qk σ := rfl
theorem mr_qk_cs (σ : SM) (v : Nat → Int64) : m_qk (ms_cs σ v) = m_qk σ := rfl
theorem mr_qk_fo (σ : SM) (v : Nat → Int32) : m_qk (ms_fo σ v) = m_qk σ := rfl
theorem mr_qk_ot (σ : SM) (v : Nat → Int32) : m_qk (ms_ot σ v) = m_qk σ := rfl
theorem mr_qk_le (σ : SM) (v : Nat → Int32) : m_qk (ms_le σ v) = m_qk σ := rfl
theorem mr_qk_st (σ : SM) (v : Nat → Int32) : m_qk (ms_st σ v) = m_qk σ := rfl
theorem mr_qk_sz (σ : SM) (v : Int32) : m_qk (ms_sz σ v) = m_qk σ := rfl
theorem mr_qk_qv (σ : SM) (v : Nat → Int64) : m_qk (ms_qv σ v) = m_qk σ := rfl
theorem mr_qk_tk (σ : SM) (v : Int32) : m_qk (ms_tk σ v) = m_qk σ := rfl
theorem mr_qk_fe (σ : SM) (v : Int32) : m_qk (ms_fe σ v) = m_qk σ := rfl
theorem mr_qk_kp (σ : SM) (v : Int32) : m_qk (ms_kp σ v) = m_qk σ := rfl
theorem mr_qk_kk (σ : SM) (v : Nat → Int32) : m_qk (ms_kk σ v) = m_qk σ := rfl
theorem mr_qk_kf (σ : SM) (v : Nat → Int32) : m_qk (ms_kf σ v) = m_qk σ := rfl
theorem mr_qk_kv (σ : SM) (v : Nat → Int64) : m_qk (ms_kv σ v) = m_qk σ := rfl
theorem mr_qk_la (σ : SM) (v : Int32) : m_qk (ms_la σ v) = m_qk σ := rfl
theorem mr_qk_tp (σ : SM) (v : Int32) : m_qk (ms_tp σ v) = m_qk σ := rfl
theorem mr_qk_bg (σ : SM) (v : Int32) : m_qk (ms_bg σ v) = m_qk σ := rfl
theorem mr_qk_wh (σ : SM) (v : Nat → Int32) : m_qk (ms_wh σ v) = m_qk σ := rfl
theorem mr_qk_sg (σ : SM) (v : Nat → Int32) : m_qk (ms_sg σ v) = m_qk σ := rfl
theorem mr_qk_va (σ : SM) (v : Nat → Int64) : m_qk (ms_va σ v) = m_qk σ := rfl
theorem mr_qk_fa (σ : SM) (v : Int32) : m_qk (ms_fa σ v) = m_qk σ := rfl
theorem mw_qv (σ : SM) (v : Nat → Int64) : m_qv (ms_qv σ v) = v := rfl
theorem mr_qv_su (σ : SM) (v : Nat → Int64) : m_qv (ms_su σ v) = m_qv σ := rfl
theorem mr_qv_co (σ : SM) (v : Nat → Int32) : m_qv (ms_co σ v) = m_qv σ := rfl
theorem mr_qv_many (σ : SM) (v : Int32) : m_qv (ms_many σ v) = m_qv σ := rfl
theorem mr_qv_so (σ : SM) (v : Nat → Int32) : m_qv (ms_so σ v) = m_qv σ := rfl
theorem mr_qv_ki (σ : SM) (v : Nat → Int32) : m_qv (ms_ki σ v) = m_qv σ := rfl
theorem mr_qv_as (σ : SM) (v : Nat → Int32) : m_qv (ms_as σ v) = m_qv σ := rfl
theorem mr_qv_bs (σ : SM) (v : Nat → Int32) : m_qv (ms_bs σ v) = m_qv σ := rfl
theorem mr_qv_cs (σ : SM) (v : Nat → Int64) : m_qv (ms_cs σ v) = m_qv σ := rfl
theorem mr_qv_fo (σ : SM) (v : Nat → Int32) : m_qv (ms_fo σ v) = m_qv σ := rfl
theorem mr_qv_ot (σ : SM) (v : Nat → Int32) : m_qv (ms_ot σ v) = m_qv σ := rfl
theorem mr_qv_le (σ : SM) (v : Nat → Int32) : m_qv (ms_le σ v) = m_qv σ := rfl
theorem mr_qv_st (σ : SM) (v : Nat → Int32) : m_qv (ms_st σ v) = m_qv σ := rfl
theorem mr_qv_sz (σ : SM) (v : Int32) : m_qv (ms_sz σ v) = m_qv σ := rfl
theorem mr_qv_qk (σ : SM) (v : Nat → Int32) : m_qv (ms_qk σ v) = m_qv σ := rfl
theorem mr_qv_tk (σ : SM) (v : Int32) : m_qv (ms_tk σ v) = m_qv σ := rfl
theorem mr_qv_fe (σ : SM) (v : Int32) : m_qv (ms_fe σ v) = m_qv σ := rfl
theorem mr_qv_kp (σ : SM) (v : Int32) : m_qv (ms_kp σ v) = m_qv σ := rfl
theorem mr_qv_kk (σ : SM) (v : Nat → Int32) : m_qv (ms_kk σ v) = m_qv σ := rfl
theorem mr_qv_kf (σ : SM) (v : Nat → Int32) : m_qv (ms_kf σ v) = m_qv σ := rfl
theorem mr_qv_kv (σ : SM) (v : Nat → Int64) : m_qv (ms_kv σ v) = m_qv σ := rfl
theorem mr_qv_la (σ : SM) (v : Int32) : m_qv (ms_la σ v) = m_qv σ := rfl
theorem mr_qv_tp (σ : SM) (v : Int32) : m_qv (ms_tp σ v) = m_qv σ := rfl
theorem mr_qv_bg (σ : SM) (v : Int32) : m_qv (ms_bg σ v) = m_qv σ := rfl
theorem mr_qv_wh (σ : SM) (v : Nat → Int32) : m_qv (ms_wh σ v) = m_qv σ := rfl
theorem mr_qv_sg (σ : SM) (v : Nat → Int32) : m_qv (ms_sg σ v) = m_qv σ := rfl
theorem mr_qv_va (σ : SM) (v : Nat → Int64) : m_qv (ms_va σ v) = m_qv σ := rfl
theorem mr_qv_fa (σ : SM) (v : Int32) : m_qv (ms_fa σ v) = m_qv σ := rfl
theorem mw_tk (σ : SM) (v : Int32) : m_tk (ms_tk σ v) = v := rfl
theorem mr_tk_su (σ : SM) (v : Nat → Int64) : m_tk (ms_su σ v) = m_tk σ := rfl
theorem mr_tk_co (σ : SM) (v : Nat → Int32) : m_tk (ms_co σ v) = m_tk σ := rfl
theorem mr_tk_many (σ : SM) (v : Int32) : m_tk (ms_many σ v) = m_tk σ := rfl
theorem mr_tk_so (σ : SM) (v : Nat → Int32) : m_tk (ms_so σ v) = m_tk σ := rfl
theorem mr_tk_ki (σ : SM) (v : Nat → Int32) : m_tk (ms_ki σ v) = m_tk σ := rfl
theorem mr_tk_as (σ : SM) (v : Nat → Int32) : m_tk (ms_as σ v) = m_tk σ := rfl
theorem mr_tk_bs (σ : SM) (v : Nat → Int32) : m_tk (ms_bs σ v) = m_tk σ := rfl
theorem mr_tk_cs (σ : SM) (v : Nat → Int64) : m_tk (ms_cs σ v) = m_tk σ := rfl
theorem mr_tk_fo (σ : SM) (v : Nat → Int32) : m_tk (ms_fo σ v) = m_tk σ := rfl
theorem mr_tk_ot (σ : SM) (v : Nat → Int32) : m_tk (ms_ot σ v) = m_tk σ := rfl
theorem mr_tk_le (σ : SM) (v : Nat → Int32) : m_tk (ms_le σ v) = m_tk σ := rfl
theorem mr_tk_st (σ : SM) (v : Nat → Int32) : m_tk (ms_st σ v) = m_tk σ := rfl
theorem mr_tk_sz (σ : SM) (v : Int32) : m_tk (ms_sz σ v) = m_tk σ := rfl
theorem mr_tk_qk (σ : SM) (v : Nat → Int32) : m_tk (ms_qk σ v) = m_tk σ := rfl
theorem mr_tk_qv (σ : SM) (v : Nat → Int64) : m_tk (ms_qv σ v) = m_tk σ := rfl
theorem mr_tk_fe (σ : SM) (v : Int32) : m_tk (ms_fe σ v) = m_tk σ := rfl
theorem mr_tk_kp (σ : SM) (v : Int32) : m_tk (ms_kp σ v) = m_tk σ := rfl
theorem mr_tk_kk (σ : SM) (v : Nat → Int32) : m_tk (ms_kk σ v) = m_tk σ := rfl
theorem mr_tk_kf (σ : SM) (v : Nat → Int32) : m_tk (ms_kf σ v) = m_tk σ := rfl
theorem mr_tk_kv (σ : SM) (v : Nat → Int64) : m_tk (ms_kv σ v) = m_tk σ := rfl
theorem mr_tk_la (σ : SM) (v : Int32) : m_tk (ms_la σ v) = m_tk σ := rfl
theorem mr_tk_tp (σ : SM) (v : Int32) : m_tk (ms_tp σ v) = m_tk σ := rfl
theorem mr_tk_bg (σ : SM) (v : Int32) : m_tk (ms_bg σ v) = m_tk σ := rfl
theorem mr_tk_wh (σ : SM) (v : Nat → Int32) : m_tk (ms_wh σ v) = m_tk σ := rfl
theorem mr_tk_sg (σ : SM) (v : Nat → Int32) : m_tk (ms_sg σ v) = m_tk σ := rfl
theorem mr_tk_va (σ : SM) (v : Nat → Int64) : m_tk (ms_va σ v) = m_tk σ := rfl
theorem mr_tk_fa (σ : SM) (v : Int32) : m_tk (ms_fa σ v) = m_tk σ := rfl
theorem mw_fe (σ : SM) (v : Int32) : m_fe (ms_fe σ v) = v := rfl
theorem mr_fe_su (σ : SM) (v : Nat → Int64) : m_fe (ms_su σ v) = m_fe σ := rfl
theorem mr_fe_co (σ : SM) (v : Nat → Int32) : m_fe (ms_co σ v) = m_fe σ := rfl
theorem mr_fe_many (σ : SM) (v : Int32) : m_fe (ms_many σ v) = m_fe σ := rfl
theorem mr_fe_so (σ : SM) (v : Nat → Int32) : m_fe (ms_so σ v) = m_fe σ := rfl
theorem mr_fe_ki (σ : SM) (v : Nat → Int32) : m_fe (ms_ki σ v) = m_fe σ := rfl
theorem mr_fe_as (σ : SM) (v : Nat → Int32) : m_fe (ms_as σ v) = m_fe σ := rfl
theorem mr_fe_bs (σ : SM) (v : Nat → Int32) : m_fe (ms_bs σ v) = m_fe σ := rfl
theorem mr_fe_cs (σ : SM) (v : Nat → Int64) : m_fe (ms_cs σ v) = m_fe σ := rfl
theorem mr_fe_fo (σ : SM) (v : Nat → Int32) : m_fe (ms_fo σ v) = m_fe σ := rfl
theorem mr_fe_ot (σ : SM) (v : Nat → Int32) : m_fe (ms_ot σ v) = m_fe σ := rfl
theorem mr_fe_le (σ : SM) (v : Nat → Int32) : m_fe (ms_le σ v) = m_fe σ := rfl
theorem mr_fe_st (σ : SM) (v : Nat → Int32) : m_fe (ms_st σ v) = m_fe σ := rfl
theorem mr_fe_sz (σ : SM) (v : Int32) : m_fe (ms_sz σ v) = m_fe σ := rfl
theorem mr_fe_qk (σ : SM) (v : Nat → Int32) : m_fe (ms_qk σ v) = m_fe σ := rfl
theorem mr_fe_qv (σ : SM) (v : Nat → Int64) : m_fe (ms_qv σ v) = m_fe σ := rfl
theorem mr_fe_tk (σ : SM) (v : Int32) : m_fe (ms_tk σ v) = m_fe σ := rfl
theorem mr_fe_kp (σ : SM) (v : Int32) : m_fe (ms_kp σ v) = m_fe σ := rfl
theorem mr_fe_kk (σ : SM) (v : Nat → Int32) : m_fe (ms_kk σ v) = m_fe σ := rfl
theorem mr_fe_kf (σ : SM) (v : Nat → Int32) : m_fe (ms_kf σ v) = m_fe σ := rfl
theorem mr_fe_kv (σ : SM) (v : Nat → Int64) : m_fe (ms_kv σ v) = m_fe σ := rfl
theorem mr_fe_la (σ : SM) (v : Int32) : m_fe (ms_la σ v) = m_fe σ := rfl
theorem mr_fe_tp (σ : SM) (v : Int32) : m_fe (ms_tp σ v) = m_fe σ := rfl
theorem mr_fe_bg (σ : SM) (v : Int32) : m_fe (ms_bg σ v) = m_fe σ := rfl
theorem mr_fe_wh (σ : SM) (v : Nat → Int32) : m_fe (ms_wh σ v) = m_fe σ := rfl
theorem mr_fe_sg (σ : SM) (v : Nat → Int32) : m_fe (ms_sg σ v) = m_fe σ := rfl
theorem mr_fe_va (σ : SM) (v : Nat → Int64) : m_fe (ms_va σ v) = m_fe σ := rfl
theorem mr_fe_fa (σ : SM) (v : Int32) : m_fe (ms_fa σ v) = m_fe σ := rfl
theorem mw_kp (σ : SM) (v : Int32) : m_kp (ms_kp σ v) = v := rfl
theorem mr_kp_su (σ : SM) (v : Nat → Int64) : m_kp (ms_su σ v) = m_kp σ := rfl
theorem mr_kp_co (σ : SM) (v : Nat → Int32) : m_kp (ms_co σ v) = m_kp σ := rfl
theorem mr_kp_many (σ : SM) (v : Int32) : m_kp (ms_many σ v) = m_kp σ := rfl
theorem mr_kp_so (σ : SM) (v : Nat → Int32) : m_kp (ms_so σ v) = m_kp σ := rfl
theorem mr_kp_ki (σ : SM) (v : Nat → Int32) : m_kp (ms_ki σ v) = m_kp σ := rfl
theorem mr_kp_as (σ : SM) (v : Nat → Int32) : m_kp (ms_as σ v) = m_kp σ := rfl
theorem mr_kp_bs (σ : SM) (v : Nat → Int32) : m_kp (ms_bs σ v) = m_kp σ := rfl
theorem mr_kp_cs (σ : SM) (v : Nat → Int64) : m_kp (ms_cs σ v) = m_kp σ := rfl
theorem mr_kp_fo (σ : SM) (v : Nat → Int32) : m_kp (ms_fo σ v) = m_kp σ := rfl
theorem mr_kp_ot (σ : SM) (v : Nat → Int32) : m_kp (ms_ot σ v) = m_kp σ := rfl
theorem mr_kp_le (σ : SM) (v : Nat → Int32) : m_kp (ms_le σ v) = m_kp σ := rfl
theorem mr_kp_st (σ : SM) (v : Nat → Int32) : m_kp (ms_st σ v) = m_kp σ := rfl
theorem mr_kp_sz (σ : SM) (v : Int32) : m_kp (ms_sz σ v) = m_kp σ := rfl
theorem mr_kp_qk (σ : SM) (v : Nat → Int32) : m_kp (ms_qk σ v) = m_kp σ := rfl
theorem mr_kp_qv (σ : SM) (v : Nat → Int64) : m_kp (ms_qv σ v) = m_kp σ := rfl
theorem mr_kp_tk (σ : SM) (v : Int32) : m_kp (ms_tk σ v) = m_kp σ := rfl
theorem mr_kp_fe (σ : SM) (v : Int32) : m_kp (ms_fe σ v) = m_kp σ := rfl
theorem mr_kp_kk (σ : SM) (v : Nat → Int32) : m_kp (ms_kk σ v) = m_kp σ := rfl
theorem mr_kp_kf (σ : SM) (v : Nat → Int32) : m_kp (ms_kf σ v) = m_kp σ := rfl
theorem mr_kp_kv (σ : SM) (v : Nat → Int64) : m_kp (ms_kv σ v) = m_kp σ := rfl
theorem mr_kp_la (σ : SM) (v : Int32) : m_kp (ms_la σ v) = m_kp σ := rfl
theorem mr_kp_tp (σ : SM) (v : Int32) : m_kp (ms_tp σ v) = m_kp σ := rfl
theorem mr_kp_bg (σ : SM) (v : Int32) : m_kp (ms_bg σ v) = m_kp σ := rfl
theorem mr_kp_wh (σ : SM) (v : Nat → Int32) : m_kp (ms_wh σ v) = m_kp σ := rfl
theorem mr_kp_sg (σ : SM) (v : Nat → Int32) : m_kp (ms_sg σ v) = m_kp σ := rfl
theorem mr_kp_va (σ : SM) (v : Nat → Int64) : m_kp (ms_va σ v) = m_kp σ := rfl
theorem mr_kp_fa (σ : SM) (v : Int32) : m_kp (ms_fa σ v) = m_kp σ := rfl
theorem mw_kk (σ : SM) (v : Nat → Int32) : m_kk (ms_kk σ v) = v := rfl
theorem mr_kk_su (σ : SM) (v : Nat → Int64) : m_kk (ms_su σ v) = m_kk σ := rfl
theorem mr_kk_co (σ : SM) (v : Nat → Int32) : m_kk (ms_co σ v) = m_kk σ := rfl
theorem mr_kk_many (σ : SM) (v : Int32) : m_kk (ms_many σ v) = m_kk σ := rfl
theorem mr_kk_so (σ : SM) (v : Nat → Int32) : m_kk (ms_so σ v) = m_kk σ := rfl
theorem mr_kk_ki (σ : SM) (v : Nat → Int32) : m_kk (ms_ki σ v) = m_kk σ := rfl
theorem mr_kk_as (σ : SM) (v : Nat → Int32) : m_kk (ms_as σ v) = m_kk σ := rfl
theorem mr_kk_bs (σ : SM) (v : Nat → Int32) : m_kk (ms_bs σ v) = m_kk σ := rfl
theorem mr_kk_cs (σ : SM) (v : Nat → Int64) : m_kk (ms_cs σ v) = m_kk σ := rfl
theorem mr_kk_fo (σ : SM) (v : Nat → Int32) : m_kk (ms_fo σ v) = m_kk σ := rfl
theorem mr_kk_ot (σ : SM) (v : Nat → Int32) : m_kk (ms_ot σ v) = m_kk σ := rfl
theorem mr_kk_le (σ : SM) (v : Nat → Int32) : m_kk (ms_le σ v) = m_kk σ := rfl
theorem mr_kk_st (σ : SM) (v : Nat → Int32) : m_kk (ms_st σ v) = m_kk σ := rfl
theorem mr_kk_sz (σ : SM) (v : Int32) : m_kk (ms_sz σ v) = m_kk σ := rfl
theorem mr_kk_qk (σ : SM) (v : Nat → Int32) : m_kk (ms_qk σ v) = m_kk σ := rfl
theorem mr_kk_qv (σ : SM) (v : Nat → Int64) : m_kk (ms_qv σ v) = m_kk σ := rfl
theorem mr_kk_tk (σ : SM) (v : Int32) : m_kk (ms_tk σ v) = m_kk σ := rfl
theorem mr_kk_fe (σ : SM) (v : Int32) : m_kk (ms_fe σ v) = m_kk σ := rfl
theorem mr_kk_kp (σ : SM) (v : Int32) : m_kk (ms_kp σ v) = m_kk σ := rfl
theorem mr_kk_kf (σ : SM) (v : Nat → Int32) : m_kk (ms_kf σ v) = m_kk σ := rfl
theorem mr_kk_kv (σ : SM) (v : Nat → Int64) : m_kk (ms_kv σ v) = m_kk σ := rfl
theorem mr_kk_la (σ : SM) (v : Int32) : m_kk (ms_la σ v) = m_kk σ := rfl
theorem mr_kk_tp (σ : SM) (v : Int32) : m_kk (ms_tp σ v) = m_kk σ := rfl
theorem mr_kk_bg (σ : SM) (v : Int32) : m_kk (ms_bg σ v) = m_kk σ := rfl
theorem mr_kk_wh (σ : SM) (v : Nat → Int32) : m_kk (ms_wh σ v) = m_kk σ := rfl
theorem mr_kk_sg (σ : SM) (v : Nat → Int32) : m_kk (ms_sg σ v) = m_kk σ := rfl
theorem mr_kk_va (σ : SM) (v : Nat → Int64) : m_kk (ms_va σ v) = m_kk σ := rfl
theorem mr_kk_fa (σ : SM) (v : Int32) : m_kk (ms_fa σ v) = m_kk σ := rfl
theorem mw_kf (σ : SM) (v : Nat → Int32) : m_kf (ms_kf σ v) = v := rfl
theorem mr_kf_su (σ : SM) (v : Nat → Int64) : m_kf (ms_su σ v) = m_kf σ := rfl
theorem mr_kf_co (σ : SM) (v : Nat → Int32) : m_kf (ms_co σ v) = m_kf σ := rfl
theorem mr_kf_many (σ : SM) (v : Int32) : m_kf (ms_many σ v) = m_kf σ := rfl
theorem mr_kf_so (σ : SM) (v : Nat → Int32) : m_kf (ms_so σ v) = m_kf σ := rfl
theorem mr_kf_ki (σ : SM) (v : Nat → Int32) : m_kf (ms_ki σ v) = m_kf σ := rfl
theorem mr_kf_as (σ : SM) (v : Nat → Int32) : m_kf (ms_as σ v) = m_kf σ := rfl
theorem mr_kf_bs (σ : SM) (v : Nat → Int32) : m_kf (ms_bs σ v) = m_kf σ := rfl
theorem mr_kf_cs (σ : SM) (v : Nat → Int64) : m_kf (ms_cs σ v) = m_kf σ := rfl
theorem mr_kf_fo (σ : SM) (v : Nat → Int32) : m_kf (ms_fo σ v) = m_kf σ := rfl
theorem mr_kf_ot (σ : SM) (v : Nat → Int32) : m_kf (ms_ot σ v) = m_kf σ := rfl
theorem mr_kf_le (σ : SM) (v : Nat → Int32) : m_kf (ms_le σ v) = m_kf σ := rfl
theorem mr_kf_st (σ : SM) (v : Nat → Int32) : m_kf (ms_st σ v) = m_kf σ := rfl
theorem mr_kf_sz (σ : SM) (v : Int32) : m_kf (ms_sz σ v) = m_kf σ := rfl
theorem mr_kf_qk (σ : SM) (v : Nat → Int32) : m_kf (ms_qk σ v) = m_kf σ := rfl
theorem mr_kf_qv (σ : SM) (v : Nat → Int64) : m_kf (ms_qv σ v) = m_kf σ := rfl
theorem mr_kf_tk (σ : SM) (v : Int32) : m_kf (ms_tk σ v) = m_kf σ := rfl
theorem mr_kf_fe (σ : SM) (v : Int32) : m_kf (ms_fe σ v) = m_kf σ := rfl
theorem mr_kf_kp (σ : SM) (v : Int32) : m_kf (ms_kp σ v) = m_kf σ := rfl
theorem mr_kf_kk (σ : SM) (v : Nat → Int32) : m_kf (ms_kk σ v) = m_kf σ := rfl
theorem mr_kf_kv (σ : SM) (v : Nat → Int64) : m_kf (ms_kv σ v) = m_kf σ := rfl
theorem mr_kf_la (σ : SM) (v : Int32) : m_kf (ms_la σ v) = m_kf σ := rfl
theorem mr_kf_tp (σ : SM) (v : Int32) : m_kf (ms_tp σ v) = m_kf σ := rfl
theorem mr_kf_bg (σ : SM) (v : Int32) : m_kf (ms_bg σ v) = m_kf σ := rfl
theorem mr_kf_wh (σ : SM) (v : Nat → Int32) : m_kf (ms_wh σ v) = m_kf σ := rfl
theorem mr_kf_sg (σ : SM) (v : Nat → Int32) : m_kf (ms_sg σ v) = m_kf σ := rfl
theorem mr_kf_va (σ : SM) (v : Nat → Int64) : m_kf (ms_va σ v) = m_kf σ := rfl
theorem mr_kf_fa (σ : SM) (v : Int32) : m_kf (ms_fa σ v) = m_kf σ := rfl
theorem mw_kv (σ : SM) (v : Nat → Int64) : m_kv (ms_kv σ v) = v := rfl
theorem mr_kv_su (σ : SM) (v : Nat → Int64) : m_kv (ms_su σ v) = m_kv σ := rfl
theorem mr_kv_co (σ : SM) (v : Nat → Int32) : m_kv (ms_co σ v) = m_kv σ := rfl
theorem mr_kv_many (σ : SM) (v : Int32) : m_kv (ms_many σ v) = m_kv σ := rfl
theorem mr_kv_so (σ : SM) (v : Nat → Int32) : m_kv (ms_so σ v) = m_kv σ := rfl
theorem mr_kv_ki (σ : SM) (v : Nat → Int32) : m_kv (ms_ki σ v) = m_kv σ := rfl
theorem mr_kv_as (σ : SM) (v : Nat → Int32) : m_kv (ms_as σ v) = m_kv σ := rfl
theorem mr_kv_bs (σ : SM) (v : Nat → Int32) : m_kv (ms_bs σ v) = m_kv σ := rfl
theorem mr_kv_cs (σ : SM) (v : Nat → Int64) : m_kv (ms_cs σ v) = m_kv σ := rfl
theorem mr_kv_fo (σ : SM) (v : Nat → Int32) : m_kv (ms_fo σ v) = m_kv σ := rfl
theorem mr_kv_ot (σ : SM) (v : Nat → Int32) : m_kv (ms_ot σ v) = m_kv σ := rfl
theorem mr_kv_le (σ : SM) (v : Nat → Int32) : m_kv (ms_le σ v) = m_kv σ := rfl
theorem mr_kv_st (σ : SM) (v : Nat → Int32) : m_kv (ms_st σ v) = m_kv σ := rfl
theorem mr_kv_sz (σ : SM) (v : Int32) : m_kv (ms_sz σ v) = m_kv σ := rfl
theorem mr_kv_qk (σ : SM) (v : Nat → Int32) : m_kv (ms_qk σ v) = m_kv σ := rfl
theorem mr_kv_qv (σ : SM) (v : Nat → Int64) : m_kv (ms_qv σ v) = m_kv σ := rfl
theorem mr_kv_tk (σ : SM) (v : Int32) : m_kv (ms_tk σ v) = m_kv σ := rfl
theorem mr_kv_fe (σ : SM) (v : Int32) : m_kv (ms_fe σ v) = m_kv σ := rfl
theorem mr_kv_kp (σ : SM) (v : Int32) : m_kv (ms_kp σ v) = m_kv σ := rfl
theorem mr_kv_kk (σ : SM) (v : Nat → Int32) : m_kv (ms_kk σ v) = m_kv σ := rfl
theorem mr_kv_kf (σ : SM) (v : Nat → Int32) : m_kv (ms_kf σ v) = m_kv σ := rfl
theorem mr_kv_la (σ : SM) (v : Int32) : m_kv (ms_la σ v) = m_kv σ := rfl
theorem mr_kv_tp (σ : SM) (v : Int32) : m_kv (ms_tp σ v) = m_kv σ := rfl
theorem mr_kv_bg (σ : SM) (v : Int32) : m_kv (ms_bg σ v) = m_kv σ := rfl
theorem mr_kv_wh (σ : SM) (v : Nat → Int32) : m_kv (ms_wh σ v) = m_kv σ := rfl
theorem mr_kv_sg (σ : SM) (v : Nat → Int32) : m_kv (ms_sg σ v) = m_kv σ := rfl
theorem mr_kv_va (σ : SM) (v : Nat → Int64) : m_kv (ms_va σ v) = m_kv σ := rfl
theorem mr_kv_fa (σ : SM) (v : Int32) : m_kv (ms_fa σ v) = m_kv σ := rfl
theorem mw_la (σ : SM) (v : Int32) : m_la (ms_la σ v) = v := rfl
theorem mr_la_su (σ : SM) (v : Nat → Int64) : m_la (ms_su σ v) = m_la σ := rfl
theorem mr_la_co (σ : SM) (v : Nat → Int32) : m_la (ms_co σ v) = m_la σ := rfl
theorem mr_la_many (σ : SM) (v : Int32) : m_la (ms_many σ v) = m_la σ := rfl
theorem mr_la_so (σ : SM) (v : Nat → Int32) : m_la (ms_so σ v) = m_la σ := rfl
theorem mr_la_ki (σ : SM) (v : Nat → Int32) : m_la (ms_ki σ v) = m_la σ := rfl
theorem mr_la_as (σ : SM) (v : Nat → Int32) : m_la (ms_as σ v) = m_la σ := rfl
theorem mr_la_bs (σ : SM) (v : Nat → Int32) : m_la (ms_bs σ v) = m_la σ := rfl
theorem mr_la_cs (σ : SM) (v : Nat → Int64) : m_la (ms_cs σ v) = m_la σ := rfl
theorem mr_la_fo (σ : SM) (v : Nat → Int32) : m_la (ms_fo σ v) = m_la σ := rfl
theorem mr_la_ot (σ : SM) (v : Nat → Int32) : m_la (ms_ot σ v) = m_la σ := rfl
theorem mr_la_le (σ : SM) (v : Nat → Int32) : m_la (ms_le σ v) = m_la σ := rfl
theorem mr_la_st (σ : SM) (v : Nat → Int32) : m_la (ms_st σ v) = m_la σ := rfl
theorem mr_la_sz (σ : SM) (v : Int32) : m_la (ms_sz σ v) = m_la σ := rfl
theorem mr_la_qk (σ : SM) (v : Nat → Int32) : m_la (ms_qk σ v) = m_la σ := rfl
theorem mr_la_qv (σ : SM) (v : Nat → Int64) : m_la (ms_qv σ v) = m_la σ := rfl
theorem mr_la_tk (σ : SM) (v : Int32) : m_la (ms_tk σ v) = m_la σ := rfl
theorem mr_la_fe (σ : SM) (v : Int32) : m_la (ms_fe σ v) = m_la σ := rfl
theorem mr_la_kp (σ : SM) (v : Int32) : m_la (ms_kp σ v) = m_la σ := rfl
theorem mr_la_kk (σ : SM) (v : Nat → Int32) : m_la (ms_kk σ v) = m_la σ := rfl
theorem mr_la_kf (σ : SM) (v : Nat → Int32) : m_la (ms_kf σ v) = m_la σ := rfl
theorem mr_la_kv (σ : SM) (v : Nat → Int64) : m_la (ms_kv σ v) = m_la σ := rfl
theorem mr_la_tp (σ : SM) (v : Int32) : m_la (ms_tp σ v) = m_la σ := rfl
theorem mr_la_bg (σ : SM) (v : Int32) : m_la (ms_bg σ v) = m_la σ := rfl
theorem mr_la_wh (σ : SM) (v : Nat → Int32) : m_la (ms_wh σ v) = m_la σ := rfl
theorem mr_la_sg (σ : SM) (v : Nat → Int32) : m_la (ms_sg σ v) = m_la σ := rfl
theorem mr_la_va (σ : SM) (v : Nat → Int64) : m_la (ms_va σ v) = m_la σ := rfl
theorem mr_la_fa (σ : SM) (v : Int32) : m_la (ms_fa σ v) = m_la σ := rfl
theorem mw_tp (σ : SM) (v : Int32) : m_tp (ms_tp σ v) = v := rfl
theorem mr_tp_su (σ : SM) (v : Nat → Int64) : m_tp (ms_su σ v) = m_tp σ := rfl
theorem mr_tp_co (σ : SM) (v : Nat → Int32) : m_tp (ms_co σ v) = m_tp σ := rfl
theorem mr_tp_many (σ : SM) (v : Int32) : m_tp (ms_many σ v) = m_tp σ := rfl
theorem mr_tp_so (σ : SM) (v : Nat → Int32) : m_tp (ms_so σ v) = m_tp σ := rfl
theorem mr_tp_ki (σ : SM) (v : Nat → Int32) : m_tp (ms_ki σ v) = m_tp σ := rfl
theorem mr_tp_as (σ : SM) (v : Nat → Int32) : m_tp (ms_as σ v) = m_tp σ := rfl
theorem mr_tp_bs (σ : SM) (v : Nat → Int32) : m_tp (ms_bs σ v) = m_tp σ := rfl
theorem mr_tp_cs (σ : SM) (v : Nat → Int64) : m_tp (ms_cs σ v) = m_tp σ := rfl
theorem mr_tp_fo (σ : SM) (v : Nat → Int32) : m_tp (ms_fo σ v) = m_tp σ := rfl
theorem mr_tp_ot (σ : SM) (v : Nat → Int32) : m_tp (ms_ot σ v) = m_tp σ := rfl
theorem mr_tp_le (σ : SM) (v : Nat → Int32) : m_tp (ms_le σ v) = m_tp σ := rfl
theorem mr_tp_st (σ : SM) (v : Nat → Int32) : m_tp (ms_st σ v) = m_tp σ := rfl
theorem mr_tp_sz (σ : SM) (v : Int32) : m_tp (ms_sz σ v) = m_tp σ := rfl
theorem mr_tp_qk (σ : SM) (v : Nat → Int32) : m_tp (ms_qk σ v) = m_tp σ := rfl
theorem mr_tp_qv (σ : SM) (v : Nat → Int64) : m_tp (ms_qv σ v) = m_tp σ := rfl
theorem mr_tp_tk (σ : SM) (v : Int32) : m_tp (ms_tk σ v) = m_tp σ := rfl
theorem mr_tp_fe (σ : SM) (v : Int32) : m_tp (ms_fe σ v) = m_tp σ := rfl
theorem mr_tp_kp (σ : SM) (v : Int32) : m_tp (ms_kp σ v) = m_tp σ := rfl
theorem mr_tp_kk (σ : SM) (v : Nat → Int32) : m_tp (ms_kk σ v) = m_tp σ := rfl
theorem mr_tp_kf (σ : SM) (v : Nat → Int32) : m_tp (ms_kf σ v) = m_tp σ := rfl
theorem mr_tp_kv (σ : SM) (v : Nat → Int64) : m_tp (ms_kv σ v) = m_tp σ := rfl
theorem mr_tp_la (σ : SM) (v : Int32) : m_tp (ms_la σ v) = m_tp σ := rfl
theorem mr_tp_bg (σ : SM) (v : Int32) : m_tp (ms_bg σ v) = m_tp σ := rfl
theorem mr_tp_wh (σ : SM) (v : Nat → Int32) : m_tp (ms_wh σ v) = m_tp σ := rfl
theorem mr_tp_sg (σ : SM) (v : Nat → Int32) : m_tp (ms_sg σ v) = m_tp σ := rfl
theorem mr_tp_va (σ : SM) (v : Nat → Int64) : m_tp (ms_va σ v) = m_tp σ := rfl
theorem mr_tp_fa (σ : SM) (v : Int32) : m_tp (ms_fa σ v) = m_tp σ := rfl
theorem mw_bg (σ : SM) (v : Int32) : m_bg (ms_bg σ v) = v := rfl
theorem mr_bg_su (σ : SM) (v : Nat → Int64) : m_bg (ms_su σ v) = m_bg σ := rfl
theorem mr_bg_co (σ : SM) (v : Nat → Int32) : m_bg (ms_co σ v) = m_bg σ := rfl
theorem mr_bg_many (σ : SM) (v : Int32) : m_bg (ms_many σ v) = m_bg σ := rfl
theorem mr_bg_so (σ : SM) (v : Nat → Int32) : m_bg (ms_so σ v) = m_bg σ := rfl
theorem mr_bg_ki (σ : SM) (v : Nat → Int32) : m_bg (ms_ki σ v) = m_bg σ := rfl
theorem mr_bg_as (σ : SM) (v : Nat → Int32) : m_bg (ms_as σ v) = m_bg σ := rfl
theorem mr_bg_bs (σ : SM) (v : Nat → Int32) : m_bg (ms_bs σ v) = m_bg σ := rfl
theorem mr_bg_cs (σ : SM) (v : Nat → Int64) : m_bg (ms_cs σ v) = m_bg σ := rfl
theorem mr_bg_fo (σ : SM) (v : Nat → Int32) : m_bg (ms_fo σ v) = m_bg σ := rfl
theorem mr_bg_ot (σ : SM) (v : Nat → Int32) : m_bg (ms_ot σ v) = m_bg σ := rfl
theorem mr_bg_le (σ : SM) (v : Nat → Int32) : m_bg (ms_le σ v) = m_bg σ := rfl
theorem mr_bg_st (σ : SM) (v : Nat → Int32) : m_bg (ms_st σ v) = m_bg σ := rfl
theorem mr_bg_sz (σ : SM) (v : Int32) : m_bg (ms_sz σ v) = m_bg σ := rfl
theorem mr_bg_qk (σ : SM) (v : Nat → Int32) : m_bg (ms_qk σ v) = m_bg σ := rfl
theorem mr_bg_qv (σ : SM) (v : Nat → Int64) : m_bg (ms_qv σ v) = m_bg σ := rfl
theorem mr_bg_tk (σ : SM) (v : Int32) : m_bg (ms_tk σ v) = m_bg σ := rfl
theorem mr_bg_fe (σ : SM) (v : Int32) : m_bg (ms_fe σ v) = m_bg σ := rfl
theorem mr_bg_kp (σ : SM) (v : Int32) : m_bg (ms_kp σ v) = m_bg σ := rfl
theorem mr_bg_kk (σ : SM) (v : Nat → Int32) : m_bg (ms_kk σ v) = m_bg σ := rfl
theorem mr_bg_kf (σ : SM) (v : Nat → Int32) : m_bg (ms_kf σ v) = m_bg σ := rfl
theorem mr_bg_kv (σ : SM) (v : Nat → Int64) : m_bg (ms_kv σ v) = m_bg σ := rfl
theorem mr_bg_la (σ : SM) (v : Int32) : m_bg (ms_la σ v) = m_bg σ := rfl
theorem mr_bg_tp (σ : SM) (v : Int32) : m_bg (ms_tp σ v) = m_bg σ := rfl
theorem mr_bg_wh (σ : SM) (v : Nat → Int32) : m_bg (ms_wh σ v) = m_bg σ := rfl
theorem mr_bg_sg (σ : SM) (v : Nat → Int32) : m_bg (ms_sg σ v) = m_bg σ := rfl
theorem mr_bg_va (σ : SM) (v : Nat → Int64) : m_bg (ms_va σ v) = m_bg σ := rfl
theorem mr_bg_fa (σ : SM) (v : Int32) : m_bg (ms_fa σ v) = m_bg σ := rfl
theorem mw_wh (σ : SM) (v : Nat → Int32) : m_wh (ms_wh σ v) = v := rfl
theorem mr_wh_su (σ : SM) (v : Nat → Int64) : m_wh (ms_su σ v) = m_wh σ := rfl
theorem mr_wh_co (σ : SM) (v : Nat → Int32) : m_wh (ms_co σ v) = m_wh σ := rfl
theorem mr_wh_many (σ : SM) (v : Int32) : m_wh (ms_many σ v) = m_wh σ := rfl
theorem mr_wh_so (σ : SM) (v : Nat → Int32) : m_wh (ms_so σ v) = m_wh σ := rfl
theorem mr_wh_ki (σ : SM) (v : Nat → Int32) : m_wh (ms_ki σ v) = m_wh σ := rfl
theorem mr_wh_as (σ : SM) (v : Nat → Int32) : m_wh (ms_as σ v) = m_wh σ := rfl
theorem mr_wh_bs (σ : SM) (v : Nat → Int32) : m_wh (ms_bs σ v) = m_wh σ := rfl
theorem mr_wh_cs (σ : SM) (v : Nat → Int64) : m_wh (ms_cs σ v) = m_wh σ := rfl
theorem mr_wh_fo (σ : SM) (v : Nat → Int32) : m_wh (ms_fo σ v) = m_wh σ := rfl
theorem mr_wh_ot (σ : SM) (v : Nat → Int32) : m_wh (ms_ot σ v) = m_wh σ := rfl
theorem mr_wh_le (σ : SM) (v : Nat → Int32) : m_wh (ms_le σ v) = m_wh σ := rfl
theorem mr_wh_st (σ : SM) (v : Nat → Int32) : m_wh (ms_st σ v) = m_wh σ := rfl
theorem mr_wh_sz (σ : SM) (v : Int32) : m_wh (ms_sz σ v) = m_wh σ := rfl
theorem mr_wh_qk (σ : SM) (v : Nat → Int32) : m_wh (ms_qk σ v) = m_wh σ := rfl
theorem mr_wh_qv (σ : SM) (v : Nat → Int64) : m_wh (ms_qv σ v) = m_wh σ := rfl
theorem mr_wh_tk (σ : SM) (v : Int32) : m_wh (ms_tk σ v) = m_wh σ := rfl
theorem mr_wh_fe (σ : SM) (v : Int32) : m_wh (ms_fe σ v) = m_wh σ := rfl
theorem mr_wh_kp (σ : SM) (v : Int32) : m_wh (ms_kp σ v) = m_wh σ := rfl
theorem mr_wh_kk (σ : SM) (v : Nat → Int32) : m_wh (ms_kk σ v) = m_wh σ := rfl
theorem mr_wh_kf (σ : SM) (v : Nat → Int32) : m_wh (ms_kf σ v) = m_wh σ := rfl
theorem mr_wh_kv (σ : SM) (v : Nat → Int64) : m_wh (ms_kv σ v) = m_wh σ := rfl
theorem mr_wh_la (σ : SM) (v : Int32) : m_wh (ms_la σ v) = m_wh σ := rfl
theorem mr_wh_tp (σ : SM) (v : Int32) : m_wh (ms_tp σ v) = m_wh σ := rfl
theorem mr_wh_bg (σ : SM) (v : Int32) : m_wh (ms_bg σ v) = m_wh σ := rfl
theorem mr_wh_sg (σ : SM) (v : Nat → Int32) : m_wh (ms_sg σ v) = m_wh σ := rfl
theorem mr_wh_va (σ : SM) (v : Nat → Int64) : m_wh (ms_va σ v) = m_wh σ := rfl
theorem mr_wh_fa (σ : SM) (v : Int32) : m_wh (ms_fa σ v) = m_wh σ := rfl
theorem mw_sg (σ : SM) (v : Nat → Int32) : m_sg (ms_sg σ v) = v := rfl
theorem mr_sg_su (σ : SM) (v : Nat → Int64) : m_sg (ms_su σ v) = m_sg σ := rfl
theorem mr_sg_co (σ : SM) (v : Nat → Int32) : m_sg (ms_co σ v) = m_sg σ := rfl
theorem mr_sg_many (σ : SM) (v : Int32) : m_sg (ms_many σ v) = m_sg σ := rfl
theorem mr_sg_so (σ : SM) (v : Nat → Int32) : m_sg (ms_so σ v) = m_sg σ := rfl
theorem mr_sg_ki (σ : SM) (v : Nat → Int32) : m_sg (ms_ki σ v) = m_sg σ := rfl
theorem mr_sg_as (σ : SM) (v : Nat → Int32) : m_sg (ms_as σ v) = m_sg σ := rfl
theorem mr_sg_bs (σ : SM) (v : Nat → Int32) : m_sg (ms_bs σ v) = m_sg σ := rfl
theorem mr_sg_cs (σ : SM) (v : Nat → Int64) : m_sg (ms_cs σ v) = m_sg σ := rfl
theorem mr_sg_fo (σ : SM) (v : Nat → Int32) : m_sg (ms_fo σ v) = m_sg σ := rfl
theorem mr_sg_ot (σ : SM) (v : Nat → Int32) : m_sg (ms_ot σ v) = m_sg σ := rfl
theorem mr_sg_le (σ : SM) (v : Nat → Int32) : m_sg (ms_le σ v) = m_sg σ := rfl
theorem mr_sg_st (σ : SM) (v : Nat → Int32) : m_sg (ms_st σ v) = m_sg σ := rfl
theorem mr_sg_sz (σ : SM) (v : Int32) : m_sg (ms_sz σ v) = m_sg σ := rfl
theorem mr_sg_qk (σ : SM) (v : Nat → Int32) : m_sg (ms_qk σ v) = m_sg σ := rfl
theorem mr_sg_qv (σ : SM) (v : Nat → Int64) : m_sg (ms_qv σ v) = m_sg σ := rfl
theorem mr_sg_tk (σ : SM) (v : Int32) : m_sg (ms_tk σ v) = m_sg σ := rfl
theorem mr_sg_fe (σ : SM) (v : Int32) : m_sg (ms_fe σ v) = m_sg σ := rfl
theorem mr_sg_kp (σ : SM) (v : Int32) : m_sg (ms_kp σ v) = m_sg σ := rfl
theorem mr_sg_kk (σ : SM) (v : Nat → Int32) : m_sg (ms_kk σ v) = m_sg σ := rfl
theorem mr_sg_kf (σ : SM) (v : Nat → Int32) : m_sg (ms_kf σ v) = m_sg σ := rfl
theorem mr_sg_kv (σ : SM) (v : Nat → Int64) : m_sg (ms_kv σ v) = m_sg σ := rfl
theorem mr_sg_la (σ : SM) (v : Int32) : m_sg (ms_la σ v) = m_sg σ := rfl
theorem mr_sg_tp (σ : SM) (v : Int32) : m_sg (ms_tp σ v) = m_sg σ := rfl
theorem mr_sg_bg (σ : SM) (v : Int32) : m_sg (ms_bg σ v) = m_sg σ := rfl
theorem mr_sg_wh (σ : SM) (v : Nat → Int32) : m_sg (ms_wh σ v) = m_sg σ := rfl
theorem mr_sg_va (σ : SM) (v : Nat → Int64) : m_sg (ms_va σ v) = m_sg σ := rfl
theorem mr_sg_fa (σ : SM) (v : Int32) : m_sg (ms_fa σ v) = m_sg σ := rfl
theorem mw_va (σ : SM) (v : Nat → Int64) : m_va (ms_va σ v) = v := rfl
theorem mr_va_su (σ : SM) (v : Nat → Int64) : m_va (ms_su σ v) = m_va σ := rfl
theorem mr_va_co (σ : SM) (v : Nat → Int32) : m_va (ms_co σ v) = m_va σ := rfl
theorem mr_va_many (σ : SM) (v : Int32) : m_va (ms_many σ v) = m_va σ := rfl
theorem mr_va_so (σ : SM) (v : Nat → Int32) : m_va (ms_so σ v) = m_va σ := rfl
theorem mr_va_ki (σ : SM) (v : Nat → Int32) : m_va (ms_ki σ v) = m_va σ := rfl
theorem mr_va_as (σ : SM) (v : Nat → Int32) : m_va (ms_as σ v) = m_va σ := rfl
theorem mr_va_bs (σ : SM) (v : Nat → Int32) : m_va (ms_bs σ v) = m_va σ := rfl
theorem mr_va_cs (σ : SM) (v : Nat → Int64) : m_va (ms_cs σ v) = m_va σ := rfl
theorem mr_va_fo (σ : SM) (v : Nat → Int32) : m_va (ms_fo σ v) = m_va σ := rfl
theorem mr_va_ot (σ : SM) (v : Nat → Int32) : m_va (ms_ot σ v) = m_va σ := rfl
theorem mr_va_le (σ : SM) (v : Nat → Int32) : m_va (ms_le σ v) = m_va σ := rfl
theorem mr_va_st (σ : SM) (v : Nat → Int32) : m_va (ms_st σ v) = m_va σ := rfl
theorem mr_va_sz (σ : SM) (v : Int32) : m_va (ms_sz σ v) = m_va σ := rfl
theorem mr_va_qk (σ : SM) (v : Nat → Int32) : m_va (ms_qk σ v) = m_va σ := rfl
theorem mr_va_qv (σ : SM) (v : Nat → Int64) : m_va (ms_qv σ v) = m_va σ := rfl
theorem mr_va_tk (σ : SM) (v : Int32) : m_va (ms_tk σ v) = m_va σ := rfl
theorem mr_va_fe (σ : SM) (v : Int32) : m_va (ms_fe σ v) = m_va σ := rfl
theorem mr_va_kp (σ : SM) (v : Int32) : m_va (ms_kp σ v) = m_va σ := rfl
theorem mr_va_kk (σ : SM) (v : Nat → Int32) : m_va (ms_kk σ v) = m_va σ := rfl
theorem mr_va_kf (σ : SM) (v : Nat → Int32) : m_va (ms_kf σ v) = m_va σ := rfl
theorem mr_va_kv (σ : SM) (v : Nat → Int64) : m_va (ms_kv σ v) = m_va σ := rfl
theorem mr_va_la (σ : SM) (v : Int32) : m_va (ms_la σ v) = m_va σ := rfl
theorem mr_va_tp (σ : SM) (v : Int32) : m_va (ms_tp σ v) = m_va σ := rfl
theorem mr_va_bg (σ : SM) (v : Int32) : m_va (ms_bg σ v) = m_va σ := rfl
theorem mr_va_wh (σ : SM) (v : Nat → Int32) : m_va (ms_wh σ v) = m_va σ := rfl
theorem mr_va_sg (σ : SM) (v : Nat → Int32) : m_va (ms_sg σ v) = m_va σ := rfl
theorem mr_va_fa (σ : SM) (v : Int32) : m_va (ms_fa σ v) = m_va σ := rfl
theorem mw_fa (σ : SM) (v : Int32) : m_fa (ms_fa σ v) = v := rfl
theorem mr_fa_su (σ : SM) (v : Nat → Int64) : m_fa (ms_su σ v) = m_fa σ := rfl
theorem mr_fa_co (σ : SM) (v : Nat → Int32) : m_fa (ms_co σ v) = m_fa σ := rfl
theorem mr_fa_many (σ : SM) (v : Int32) : m_fa (ms_many σ v) = m_fa σ := rfl
theorem mr_fa_so (σ : SM) (v : Nat → Int32) : m_fa (ms_so σ v) = m_fa σ := rfl
theorem mr_fa_ki (σ : SM) (v : Nat → Int32) : m_fa (ms_ki σ v) = m_fa σ := rfl
theorem mr_fa_as (σ : SM) (v : Nat → Int32) : m_fa (ms_as σ v) = m_fa σ := rfl
theorem mr_fa_bs (σ : SM) (v : Nat → Int32) : m_fa (ms_bs σ v) = m_fa σ := rfl
theorem mr_fa_cs (σ : SM) (v : Nat → Int64) : m_fa (ms_cs σ v) = m_fa σ := rfl
theorem mr_fa_fo (σ : SM) (v : Nat → Int32) : m_fa (ms_fo σ v) = m_fa σ := rfl
theorem mr_fa_ot (σ : SM) (v : Nat → Int32) : m_fa (ms_ot σ v) = m_fa σ := rfl
theorem mr_fa_le (σ : SM) (v : Nat → Int32) : m_fa (ms_le σ v) = m_fa σ := rfl
theorem mr_fa_st (σ : SM) (v : Nat → Int32) : m_fa (ms_st σ v) = m_fa σ := rfl
theorem mr_fa_sz (σ : SM) (v : Int32) : m_fa (ms_sz σ v) = m_fa σ := rfl
theorem mr_fa_qk (σ : SM) (v : Nat → Int32) : m_fa (ms_qk σ v) = m_fa σ := rfl
theorem mr_fa_qv (σ : SM) (v : Nat → Int64) : m_fa (ms_qv σ v) = m_fa σ := rfl
theorem mr_fa_tk (σ : SM) (v : Int32) : m_fa (ms_tk σ v) = m_fa σ := rfl
theorem mr_fa_fe (σ : SM) (v : Int32) : m_fa (ms_fe σ v) = m_fa σ := rfl
theorem mr_fa_kp (σ : SM) (v : Int32) : m_fa (ms_kp σ v) = m_fa σ := rfl
theorem mr_fa_kk (σ : SM) (v : Nat → Int32) : m_fa (ms_kk σ v) = m_fa σ := rfl
theorem mr_fa_kf (σ : SM) (v : Nat → Int32) : m_fa (ms_kf σ v) = m_fa σ := rfl
theorem mr_fa_kv (σ : SM) (v : Nat → Int64) : m_fa (ms_kv σ v) = m_fa σ := rfl
theorem mr_fa_la (σ : SM) (v : Int32) : m_fa (ms_la σ v) = m_fa σ := rfl
theorem mr_fa_tp (σ : SM) (v : Int32) : m_fa (ms_tp σ v) = m_fa σ := rfl
theorem mr_fa_bg (σ : SM) (v : Int32) : m_fa (ms_bg σ v) = m_fa σ := rfl
theorem mr_fa_wh (σ : SM) (v : Nat → Int32) : m_fa (ms_wh σ v) = m_fa σ := rfl
theorem mr_fa_sg (σ : SM) (v : Nat → Int32) : m_fa (ms_sg σ v) = m_fa σ := rfl
theorem mr_fa_va (σ : SM) (v : Nat → Int64) : m_fa (ms_va σ v) = m_fa σ := rfl
noncomputable def mFs (O : Nat → Nat) (σ : SM) : List Value := [.ref (O 1), .ref (O 2), .int (m_many σ), .ref (O 3), .ref (O 4), .ref (O 5), .ref (O 6), .ref (O 7), .ref (O 8), .ref (O 9), .ref (O 10), .ref (O 11), .int (m_sz σ), .ref (O 12), .ref (O 13), .int (m_tk σ), .int (m_fe σ), .int (m_kp σ), .ref (O 14), .ref (O 15), .ref (O 16), .int (m_la σ), .int (m_tp σ), .int (m_bg σ), .ref (O 17), .ref (O 18), .ref (O 19), .int (m_fa σ)]
noncomputable def mT (K : Nat → ClassId) : List (ClassId × FieldType) := [(K 1, .long), (K 2, .int), (K 3, .int), (K 4, .int), (K 5, .int), (K 6, .int), (K 7, .long), (K 8, .int), (K 9, .int), (K 10, .int), (K 11, .int), (K 12, .int), (K 13, .long), (K 14, .int), (K 15, .int), (K 16, .long), (K 17, .int), (K 18, .int), (K 19, .long)]
noncomputable def mW (O : Nat → Nat) (K : Nat → ClassId) (σ : SM) : va_W := [(O 0, .inr (2, mFs O σ)), (O 1, .inl (K 1, 6, .inr (.inl (m_su σ)))), (O 2, .inl (K 2, 6, .inl (m_co σ))), (O 3, .inl (K 3, 202, .inl (m_so σ))), (O 4, .inl (K 4, 202, .inl (m_ki σ))), (O 5, .inl (K 5, 202, .inl (m_as σ))), (O 6, .inl (K 6, 202, .inl (m_bs σ))), (O 7, .inl (K 7, 202, .inr (.inl (m_cs σ)))), (O 8, .inl (K 8, 202, .inl (m_fo σ))), (O 9, .inl (K 9, 202, .inl (m_ot σ))), (O 10, .inl (K 10, 202, .inl (m_le σ))), (O 11, .inl (K 11, 10, .inl (m_st σ))), (O 12, .inl (K 12, 40, .inl (m_qk σ))), (O 13, .inl (K 13, 40, .inr (.inl (m_qv σ)))), (O 14, .inl (K 14, 30, .inl (m_kk σ))), (O 15, .inl (K 15, 30, .inl (m_kf σ))), (O 16, .inl (K 16, 30, .inr (.inl (m_kv σ)))), (O 17, .inl (K 17, 8, .inl (m_wh σ))), (O 18, .inl (K 18, 8, .inl (m_sg σ))), (O 19, .inl (K 19, 8, .inr (.inl (m_va σ))))]
section MROWS
variable {p : Program} {l : Launch} {e : Env} {R : Room} {s : State} {m : MethodId} {args : Array Value} {below : List Frame} {meth : Method} {c : Code} {H : Heap} {locs : List Loc} {cells slots : Nat} {Q : State → Prop}
variable {cc : ByteArray} {pc : Nat} {ls : Array Slot} {rest : List Value} {D : va_G} {A : Nat → Prop} {H0 : Heap} {O : Nat → Nat} {K : Nat → ClassId} {σ : SM} {index : Nat} {Ts : List Cond} {i x : Int32}
theorem m_ga_1 (hx : p.tables.exec = Jvm.exec) (hb : c.code = cc) (hts : ∀ w ∈ Ts, w.before args s = true) (hin : ∀ w ∈ wsX20, w ∈ Ts) (hown : s.vm.findClass RX2 = some m.cls) (hK : va_K D vwCl (mT K) s) (hP : va_P D vwCl (mW O K σ) H) (hlink : (Cond.fieldLink RX2 index "MailRoomModel" "sums" "[J").before args s = true) (hdg : decode cc pc = .ok (.getfield index, 3)) (kk : W p l e R s m args below meth c H locs cells slots Q (F0 m (pc + 3) ls (.ref (O 1) :: rest))) : W p l e R s m args below meth c H locs cells slots Q (F0 m pc ls (.ref (O 0) :: rest)) :=
  va_get (ci := 2) (C := RX2) (T := TX2) (N := 28) hx hb hts hin hown hK hP 0 rfl rfl 0 (by decide) hlink (fun _ h9 => h9) rfl hdg kk
theorem m_ga_2 (hx : p.tables.exec = Jvm.exec) (hb : c.code = cc) (hts : ∀ w ∈ Ts, w.before args s = true) (hin : ∀ w ∈ wsX20, w ∈ Ts) (hown : s.vm.findClass RX2 = some m.cls) (hK : va_K D vwCl (mT K) s) (hP : va_P D vwCl (mW O K σ) H) (hlink : (Cond.fieldLink RX2 index "MailRoomModel" "counts" "[I").before args s = true) (hdg : decode cc pc = .ok (.getfield index, 3)) (kk : W p l e R s m args below meth c H locs cells slots Q (F0 m (pc + 3) ls (.ref (O 2) :: rest))) : W p l e R s m args below meth c H locs cells slots Q (F0 m pc ls (.ref (O 0) :: rest)) :=
  va_get (ci := 2) (C := RX2) (T := TX2) (N := 28) hx hb hts hin hown hK hP 0 rfl rfl 1 (by decide) hlink (fun _ h9 => h9) rfl hdg kk
theorem m_gi_many (hx : p.tables.exec = Jvm.exec) (hb : c.code = cc) (hts : ∀ w ∈ Ts, w.before args s = true) (hin : ∀ w ∈ wsX20, w ∈ Ts) (hown : s.vm.findClass RX2 = some m.cls) (hK : va_K D vwCl (mT K) s) (hP : va_P D vwCl (mW O K σ) H) {v : Int32} (hv : m_many σ = v) (hlink : (Cond.fieldLink RX2 index "MailRoomModel" "many" "I").before args s = true) (hdg : decode cc pc = .ok (.getfield index, 3)) (kk : W p l e R s m args below meth c H locs cells slots Q (F0 m (pc + 3) ls (.int v :: rest))) : W p l e R s m args below meth c H locs cells slots Q (F0 m pc ls (.ref (O 0) :: rest)) := by
  subst hv
  exact va_get (ci := 2) (C := RX2) (T := TX2) (N := 28) hx hb hts hin hown hK hP 0 rfl rfl 2 (by decide) hlink (fun _ h9 => h9) rfl hdg kk
theorem m_pi_many (hx : p.tables.exec = Jvm.exec) (hb : c.code = cc) (hts : ∀ w ∈ Ts, w.before args s = true) (hin : ∀ w ∈ wsX20, w ∈ Ts) (hown : s.vm.findClass RX2 = some m.cls) (hK : va_K D vwCl (mT K) s) (hP : va_P D vwCl (mW O K σ) H) (hD : va_D A (mW O K σ)) (hS : va_S A H0 H locs) (hlink : (Cond.fieldLink RX2 index "MailRoomModel" "many" "I").before args s = true) (hdg : decode cc pc = .ok (.putfield index, 3)) (kk : ∀ (H1 : Heap) (locs1 : List Loc), va_P D vwCl (mW O K (ms_many σ x)) H1 → va_D A (mW O K (ms_many σ x)) → va_S A H0 H1 locs1 → W p l e R s m args below meth c H1 locs1 cells slots Q (F0 m (pc + 3) ls rest)) : W p l e R s m args below meth c H locs cells slots Q (F0 m pc ls (.int x :: .ref (O 0) :: rest)) :=
  va_put (ci := 2) (C := RX2) (T := TX2) (N := 28) (ty := .int) hx hb hts hin tyX2 tyX2_ok nmX2 hown hK hP hD hS 0 rfl rfl 2 (by decide) hlink (fun _ h9 => h9) rfl rfl rfl rfl (Nat.le_of_ble_eq_true rfl) hdg kk
theorem m_ga_3 (hx : p.tables.exec = Jvm.exec) (hb : c.code = cc) (hts : ∀ w ∈ Ts, w.before args s = true) (hin : ∀ w ∈ wsX20, w ∈ Ts) (hown : s.vm.findClass RX2 = some m.cls) (hK : va_K D vwCl (mT K) s) (hP : va_P D vwCl (mW O K σ) H) (hlink : (Cond.fieldLink RX2 index "MailRoomModel" "sorts" "[I").before args s = true) (hdg : decode cc pc = .ok (.getfield index, 3)) (kk : W p l e R s m args below meth c H locs cells slots Q (F0 m (pc + 3) ls (.ref (O 3) :: rest))) : W p l e R s m args below meth c H locs cells slots Q (F0 m pc ls (.ref (O 0) :: rest)) :=
  va_get (ci := 2) (C := RX2) (T := TX2) (N := 28) hx hb hts hin hown hK hP 0 rfl rfl 3 (by decide) hlink (fun _ h9 => h9) rfl hdg kk
theorem m_ga_4 (hx : p.tables.exec = Jvm.exec) (hb : c.code = cc) (hts : ∀ w ∈ Ts, w.before args s = true) (hin : ∀ w ∈ wsX20, w ∈ Ts) (hown : s.vm.findClass RX2 = some m.cls) (hK : va_K D vwCl (mT K) s) (hP : va_P D vwCl (mW O K σ) H) (hlink : (Cond.fieldLink RX2 index "MailRoomModel" "kinds" "[I").before args s = true) (hdg : decode cc pc = .ok (.getfield index, 3)) (kk : W p l e R s m args below meth c H locs cells slots Q (F0 m (pc + 3) ls (.ref (O 4) :: rest))) : W p l e R s m args below meth c H locs cells slots Q (F0 m pc ls (.ref (O 0) :: rest)) :=
  va_get (ci := 2) (C := RX2) (T := TX2) (N := 28) hx hb hts hin hown hK hP 0 rfl rfl 4 (by decide) hlink (fun _ h9 => h9) rfl hdg kk
theorem m_ga_5 (hx : p.tables.exec = Jvm.exec) (hb : c.code = cc) (hts : ∀ w ∈ Ts, w.before args s = true) (hin : ∀ w ∈ wsX20, w ∈ Ts) (hown : s.vm.findClass RX2 = some m.cls) (hK : va_K D vwCl (mT K) s) (hP : va_P D vwCl (mW O K σ) H) (hlink : (Cond.fieldLink RX2 index "MailRoomModel" "as" "[I").before args s = true) (hdg : decode cc pc = .ok (.getfield index, 3)) (kk : W p l e R s m args below meth c H locs cells slots Q (F0 m (pc + 3) ls (.ref (O 5) :: rest))) : W p l e R s m args below meth c H locs cells slots Q (F0 m pc ls (.ref (O 0) :: rest)) :=
  va_get (ci := 2) (C := RX2) (T := TX2) (N := 28) hx hb hts hin hown hK hP 0 rfl rfl 5 (by decide) hlink (fun _ h9 => h9) rfl hdg kk
theorem m_ga_6 (hx : p.tables.exec = Jvm.exec) (hb : c.code = cc) (hts : ∀ w ∈ Ts, w.before args s = true) (hin : ∀ w ∈ wsX20, w ∈ Ts) (hown : s.vm.findClass RX2 = some m.cls) (hK : va_K D vwCl (mT K) s) (hP : va_P D vwCl (mW O K σ) H) (hlink : (Cond.fieldLink RX2 index "MailRoomModel" "bs" "[I").before args s = true) (hdg : decode cc pc = .ok (.getfield index, 3)) (kk : W p l e R s m args below meth c H locs cells slots Q (F0 m (pc + 3) ls (.ref (O 6) :: rest))) : W p l e R s m args below meth c H locs cells slots Q (F0 m pc ls (.ref (O 0) :: rest)) :=
  va_get (ci := 2) (C := RX2) (T := TX2) (N := 28) hx hb hts hin hown hK hP 0 rfl rfl 6 (by decide) hlink (fun _ h9 => h9) rfl hdg kk
theorem m_ga_7 (hx : p.tables.exec = Jvm.exec) (hb : c.code = cc) (hts : ∀ w ∈ Ts, w.before args s = true) (hin : ∀ w ∈ wsX20, w ∈ Ts) (hown : s.vm.findClass RX2 = some m.cls) (hK : va_K D vwCl (mT K) s) (hP : va_P D vwCl (mW O K σ) H) (hlink : (Cond.fieldLink RX2 index "MailRoomModel" "cs" "[J").before args s = true) (hdg : decode cc pc = .ok (.getfield index, 3)) (kk : W p l e R s m args below meth c H locs cells slots Q (F0 m (pc + 3) ls (.ref (O 7) :: rest))) : W p l e R s m args below meth c H locs cells slots Q (F0 m pc ls (.ref (O 0) :: rest)) :=
  va_get (ci := 2) (C := RX2) (T := TX2) (N := 28) hx hb hts hin hown hK hP 0 rfl rfl 7 (by decide) hlink (fun _ h9 => h9) rfl hdg kk
theorem m_ga_8 (hx : p.tables.exec = Jvm.exec) (hb : c.code = cc) (hts : ∀ w ∈ Ts, w.before args s = true) (hin : ∀ w ∈ wsX20, w ∈ Ts) (hown : s.vm.findClass RX2 = some m.cls) (hK : va_K D vwCl (mT K) s) (hP : va_P D vwCl (mW O K σ) H) (hlink : (Cond.fieldLink RX2 index "MailRoomModel" "formers" "[I").before args s = true) (hdg : decode cc pc = .ok (.getfield index, 3)) (kk : W p l e R s m args below meth c H locs cells slots Q (F0 m (pc + 3) ls (.ref (O 8) :: rest))) : W p l e R s m args below meth c H locs cells slots Q (F0 m pc ls (.ref (O 0) :: rest)) :=
  va_get (ci := 2) (C := RX2) (T := TX2) (N := 28) hx hb hts hin hown hK hP 0 rfl rfl 8 (by decide) hlink (fun _ h9 => h9) rfl hdg kk
theorem m_ga_9 (hx : p.tables.exec = Jvm.exec) (hb : c.code = cc) (hts : ∀ w ∈ Ts, w.before args s = true) (hin : ∀ w ∈ wsX20, w ∈ Ts) (hown : s.vm.findClass RX2 = some m.cls) (hK : va_K D vwCl (mT K) s) (hP : va_P D vwCl (mW O K σ) H) (hlink : (Cond.fieldLink RX2 index "MailRoomModel" "others" "[I").before args s = true) (hdg : decode cc pc = .ok (.getfield index, 3)) (kk : W p l e R s m args below meth c H locs cells slots Q (F0 m (pc + 3) ls (.ref (O 9) :: rest))) : W p l e R s m args below meth c H locs cells slots Q (F0 m pc ls (.ref (O 0) :: rest)) :=
  va_get (ci := 2) (C := RX2) (T := TX2) (N := 28) hx hb hts hin hown hK hP 0 rfl rfl 9 (by decide) hlink (fun _ h9 => h9) rfl hdg kk
theorem m_ga_10 (hx : p.tables.exec = Jvm.exec) (hb : c.code = cc) (hts : ∀ w ∈ Ts, w.before args s = true) (hin : ∀ w ∈ wsX20, w ∈ Ts) (hown : s.vm.findClass RX2 = some m.cls) (hK : va_K D vwCl (mT K) s) (hP : va_P D vwCl (mW O K σ) H) (hlink : (Cond.fieldLink RX2 index "MailRoomModel" "lets" "[I").before args s = true) (hdg : decode cc pc = .ok (.getfield index, 3)) (kk : W p l e R s m args below meth c H locs cells slots Q (F0 m (pc + 3) ls (.ref (O 10) :: rest))) : W p l e R s m args below meth c H locs cells slots Q (F0 m pc ls (.ref (O 0) :: rest)) :=
  va_get (ci := 2) (C := RX2) (T := TX2) (N := 28) hx hb hts hin hown hK hP 0 rfl rfl 10 (by decide) hlink (fun _ h9 => h9) rfl hdg kk
theorem m_ga_11 (hx : p.tables.exec = Jvm.exec) (hb : c.code = cc) (hts : ∀ w ∈ Ts, w.before args s = true) (hin : ∀ w ∈ wsX20, w ∈ Ts) (hown : s.vm.findClass RX2 = some m.cls) (hK : va_K D vwCl (mT K) s) (hP : va_P D vwCl (mW O K σ) H) (hlink : (Cond.fieldLink RX2 index "MailRoomModel" "stands" "[I").before args s = true) (hdg : decode cc pc = .ok (.getfield index, 3)) (kk : W p l e R s m args below meth c H locs cells slots Q (F0 m (pc + 3) ls (.ref (O 11) :: rest))) : W p l e R s m args below meth c H locs cells slots Q (F0 m pc ls (.ref (O 0) :: rest)) :=
  va_get (ci := 2) (C := RX2) (T := TX2) (N := 28) hx hb hts hin hown hK hP 0 rfl rfl 11 (by decide) hlink (fun _ h9 => h9) rfl hdg kk
theorem m_gi_sz (hx : p.tables.exec = Jvm.exec) (hb : c.code = cc) (hts : ∀ w ∈ Ts, w.before args s = true) (hin : ∀ w ∈ wsX20, w ∈ Ts) (hown : s.vm.findClass RX2 = some m.cls) (hK : va_K D vwCl (mT K) s) (hP : va_P D vwCl (mW O K σ) H) {v : Int32} (hv : m_sz σ = v) (hlink : (Cond.fieldLink RX2 index "MailRoomModel" "size" "I").before args s = true) (hdg : decode cc pc = .ok (.getfield index, 3)) (kk : W p l e R s m args below meth c H locs cells slots Q (F0 m (pc + 3) ls (.int v :: rest))) : W p l e R s m args below meth c H locs cells slots Q (F0 m pc ls (.ref (O 0) :: rest)) := by
  subst hv
  exact va_get (ci := 2) (C := RX2) (T := TX2) (N := 28) hx hb hts hin hown hK hP 0 rfl rfl 12 (by decide) hlink (fun _ h9 => h9) rfl hdg kk
theorem m_pi_sz (hx : p.tables.exec = Jvm.exec) (hb : c.code = cc) (hts : ∀ w ∈ Ts, w.before args s = true) (hin : ∀ w ∈ wsX20, w ∈ Ts) (hown : s.vm.findClass RX2 = some m.cls) (hK : va_K D vwCl (mT K) s) (hP : va_P D vwCl (mW O K σ) H) (hD : va_D A (mW O K σ)) (hS : va_S A H0 H locs) (hlink : (Cond.fieldLink RX2 index "MailRoomModel" "size" "I").before args s = true) (hdg : decode cc pc = .ok (.putfield index, 3)) (kk : ∀ (H1 : Heap) (locs1 : List Loc), va_P D vwCl (mW O K (ms_sz σ x)) H1 → va_D A (mW O K (ms_sz σ x)) → va_S A H0 H1 locs1 → W p l e R s m args below meth c H1 locs1 cells slots Q (F0 m (pc + 3) ls rest)) : W p l e R s m args below meth c H locs cells slots Q (F0 m pc ls (.int x :: .ref (O 0) :: rest)) :=
  va_put (ci := 2) (C := RX2) (T := TX2) (N := 28) (ty := .int) hx hb hts hin tyX2 tyX2_ok nmX2 hown hK hP hD hS 0 rfl rfl 12 (by decide) hlink (fun _ h9 => h9) rfl rfl rfl rfl (Nat.le_of_ble_eq_true rfl) hdg kk
theorem m_ga_12 (hx : p.tables.exec = Jvm.exec) (hb : c.code = cc) (hts : ∀ w ∈ Ts, w.before args s = true) (hin : ∀ w ∈ wsX20, w ∈ Ts) (hown : s.vm.findClass RX2 = some m.cls) (hK : va_K D vwCl (mT K) s) (hP : va_P D vwCl (mW O K σ) H) (hlink : (Cond.fieldLink RX2 index "MailRoomModel" "queueKinds" "[I").before args s = true) (hdg : decode cc pc = .ok (.getfield index, 3)) (kk : W p l e R s m args below meth c H locs cells slots Q (F0 m (pc + 3) ls (.ref (O 12) :: rest))) : W p l e R s m args below meth c H locs cells slots Q (F0 m pc ls (.ref (O 0) :: rest)) :=
  va_get (ci := 2) (C := RX2) (T := TX2) (N := 28) hx hb hts hin hown hK hP 0 rfl rfl 13 (by decide) hlink (fun _ h9 => h9) rfl hdg kk
theorem m_ga_13 (hx : p.tables.exec = Jvm.exec) (hb : c.code = cc) (hts : ∀ w ∈ Ts, w.before args s = true) (hin : ∀ w ∈ wsX20, w ∈ Ts) (hown : s.vm.findClass RX2 = some m.cls) (hK : va_K D vwCl (mT K) s) (hP : va_P D vwCl (mW O K σ) H) (hlink : (Cond.fieldLink RX2 index "MailRoomModel" "queueValues" "[J").before args s = true) (hdg : decode cc pc = .ok (.getfield index, 3)) (kk : W p l e R s m args below meth c H locs cells slots Q (F0 m (pc + 3) ls (.ref (O 13) :: rest))) : W p l e R s m args below meth c H locs cells slots Q (F0 m pc ls (.ref (O 0) :: rest)) :=
  va_get (ci := 2) (C := RX2) (T := TX2) (N := 28) hx hb hts hin hown hK hP 0 rfl rfl 14 (by decide) hlink (fun _ h9 => h9) rfl hdg kk
theorem m_gi_tk (hx : p.tables.exec = Jvm.exec) (hb : c.code = cc) (hts : ∀ w ∈ Ts, w.before args s = true) (hin : ∀ w ∈ wsX20, w ∈ Ts) (hown : s.vm.findClass RX2 = some m.cls) (hK : va_K D vwCl (mT K) s) (hP : va_P D vwCl (mW O K σ) H) {v : Int32} (hv : m_tk σ = v) (hlink : (Cond.fieldLink RX2 index "MailRoomModel" "taken" "I").before args s = true) (hdg : decode cc pc = .ok (.getfield index, 3)) (kk : W p l e R s m args below meth c H locs cells slots Q (F0 m (pc + 3) ls (.int v :: rest))) : W p l e R s m args below meth c H locs cells slots Q (F0 m pc ls (.ref (O 0) :: rest)) := by
  subst hv
  exact va_get (ci := 2) (C := RX2) (T := TX2) (N := 28) hx hb hts hin hown hK hP 0 rfl rfl 15 (by decide) hlink (fun _ h9 => h9) rfl hdg kk
theorem m_pi_tk (hx : p.tables.exec = Jvm.exec) (hb : c.code = cc) (hts : ∀ w ∈ Ts, w.before args s = true) (hin : ∀ w ∈ wsX20, w ∈ Ts) (hown : s.vm.findClass RX2 = some m.cls) (hK : va_K D vwCl (mT K) s) (hP : va_P D vwCl (mW O K σ) H) (hD : va_D A (mW O K σ)) (hS : va_S A H0 H locs) (hlink : (Cond.fieldLink RX2 index "MailRoomModel" "taken" "I").before args s = true) (hdg : decode cc pc = .ok (.putfield index, 3)) (kk : ∀ (H1 : Heap) (locs1 : List Loc), va_P D vwCl (mW O K (ms_tk σ x)) H1 → va_D A (mW O K (ms_tk σ x)) → va_S A H0 H1 locs1 → W p l e R s m args below meth c H1 locs1 cells slots Q (F0 m (pc + 3) ls rest)) : W p l e R s m args below meth c H locs cells slots Q (F0 m pc ls (.int x :: .ref (O 0) :: rest)) :=
  va_put (ci := 2) (C := RX2) (T := TX2) (N := 28) (ty := .int) hx hb hts hin tyX2 tyX2_ok nmX2 hown hK hP hD hS 0 rfl rfl 15 (by decide) hlink (fun _ h9 => h9) rfl rfl rfl rfl (Nat.le_of_ble_eq_true rfl) hdg kk
theorem m_gi_fe (hx : p.tables.exec = Jvm.exec) (hb : c.code = cc) (hts : ∀ w ∈ Ts, w.before args s = true) (hin : ∀ w ∈ wsX20, w ∈ Ts) (hown : s.vm.findClass RX2 = some m.cls) (hK : va_K D vwCl (mT K) s) (hP : va_P D vwCl (mW O K σ) H) {v : Int32} (hv : m_fe σ = v) (hlink : (Cond.fieldLink RX2 index "MailRoomModel" "fell" "I").before args s = true) (hdg : decode cc pc = .ok (.getfield index, 3)) (kk : W p l e R s m args below meth c H locs cells slots Q (F0 m (pc + 3) ls (.int v :: rest))) : W p l e R s m args below meth c H locs cells slots Q (F0 m pc ls (.ref (O 0) :: rest)) := by
  subst hv
  exact va_get (ci := 2) (C := RX2) (T := TX2) (N := 28) hx hb hts hin hown hK hP 0 rfl rfl 16 (by decide) hlink (fun _ h9 => h9) rfl hdg kk
theorem m_pi_fe (hx : p.tables.exec = Jvm.exec) (hb : c.code = cc) (hts : ∀ w ∈ Ts, w.before args s = true) (hin : ∀ w ∈ wsX20, w ∈ Ts) (hown : s.vm.findClass RX2 = some m.cls) (hK : va_K D vwCl (mT K) s) (hP : va_P D vwCl (mW O K σ) H) (hD : va_D A (mW O K σ)) (hS : va_S A H0 H locs) (hlink : (Cond.fieldLink RX2 index "MailRoomModel" "fell" "I").before args s = true) (hdg : decode cc pc = .ok (.putfield index, 3)) (kk : ∀ (H1 : Heap) (locs1 : List Loc), va_P D vwCl (mW O K (ms_fe σ x)) H1 → va_D A (mW O K (ms_fe σ x)) → va_S A H0 H1 locs1 → W p l e R s m args below meth c H1 locs1 cells slots Q (F0 m (pc + 3) ls rest)) : W p l e R s m args below meth c H locs cells slots Q (F0 m pc ls (.int x :: .ref (O 0) :: rest)) :=
  va_put (ci := 2) (C := RX2) (T := TX2) (N := 28) (ty := .int) hx hb hts hin tyX2 tyX2_ok nmX2 hown hK hP hD hS 0 rfl rfl 16 (by decide) hlink (fun _ h9 => h9) rfl rfl rfl rfl (Nat.le_of_ble_eq_true rfl) hdg kk
theorem m_gi_kp (hx : p.tables.exec = Jvm.exec) (hb : c.code = cc) (hts : ∀ w ∈ Ts, w.before args s = true) (hin : ∀ w ∈ wsX20, w ∈ Ts) (hown : s.vm.findClass RX2 = some m.cls) (hK : va_K D vwCl (mT K) s) (hP : va_P D vwCl (mW O K σ) H) {v : Int32} (hv : m_kp σ = v) (hlink : (Cond.fieldLink RX2 index "MailRoomModel" "kept" "I").before args s = true) (hdg : decode cc pc = .ok (.getfield index, 3)) (kk : W p l e R s m args below meth c H locs cells slots Q (F0 m (pc + 3) ls (.int v :: rest))) : W p l e R s m args below meth c H locs cells slots Q (F0 m pc ls (.ref (O 0) :: rest)) := by
  subst hv
  exact va_get (ci := 2) (C := RX2) (T := TX2) (N := 28) hx hb hts hin hown hK hP 0 rfl rfl 17 (by decide) hlink (fun _ h9 => h9) rfl hdg kk
theorem m_pi_kp (hx : p.tables.exec = Jvm.exec) (hb : c.code = cc) (hts : ∀ w ∈ Ts, w.before args s = true) (hin : ∀ w ∈ wsX20, w ∈ Ts) (hown : s.vm.findClass RX2 = some m.cls) (hK : va_K D vwCl (mT K) s) (hP : va_P D vwCl (mW O K σ) H) (hD : va_D A (mW O K σ)) (hS : va_S A H0 H locs) (hlink : (Cond.fieldLink RX2 index "MailRoomModel" "kept" "I").before args s = true) (hdg : decode cc pc = .ok (.putfield index, 3)) (kk : ∀ (H1 : Heap) (locs1 : List Loc), va_P D vwCl (mW O K (ms_kp σ x)) H1 → va_D A (mW O K (ms_kp σ x)) → va_S A H0 H1 locs1 → W p l e R s m args below meth c H1 locs1 cells slots Q (F0 m (pc + 3) ls rest)) : W p l e R s m args below meth c H locs cells slots Q (F0 m pc ls (.int x :: .ref (O 0) :: rest)) :=
  va_put (ci := 2) (C := RX2) (T := TX2) (N := 28) (ty := .int) hx hb hts hin tyX2 tyX2_ok nmX2 hown hK hP hD hS 0 rfl rfl 17 (by decide) hlink (fun _ h9 => h9) rfl rfl rfl rfl (Nat.le_of_ble_eq_true rfl) hdg kk
theorem m_ga_14 (hx : p.tables.exec = Jvm.exec) (hb : c.code = cc) (hts : ∀ w ∈ Ts, w.before args s = true) (hin : ∀ w ∈ wsX20, w ∈ Ts) (hown : s.vm.findClass RX2 = some m.cls) (hK : va_K D vwCl (mT K) s) (hP : va_P D vwCl (mW O K σ) H) (hlink : (Cond.fieldLink RX2 index "MailRoomModel" "keptKinds" "[I").before args s = true) (hdg : decode cc pc = .ok (.getfield index, 3)) (kk : W p l e R s m args below meth c H locs cells slots Q (F0 m (pc + 3) ls (.ref (O 14) :: rest))) : W p l e R s m args below meth c H locs cells slots Q (F0 m pc ls (.ref (O 0) :: rest)) :=
  va_get (ci := 2) (C := RX2) (T := TX2) (N := 28) hx hb hts hin hown hK hP 0 rfl rfl 18 (by decide) hlink (fun _ h9 => h9) rfl hdg kk
theorem m_ga_15 (hx : p.tables.exec = Jvm.exec) (hb : c.code = cc) (hts : ∀ w ∈ Ts, w.before args s = true) (hin : ∀ w ∈ wsX20, w ∈ Ts) (hown : s.vm.findClass RX2 = some m.cls) (hK : va_K D vwCl (mT K) s) (hP : va_P D vwCl (mW O K σ) H) (hlink : (Cond.fieldLink RX2 index "MailRoomModel" "keptFailures" "[I").before args s = true) (hdg : decode cc pc = .ok (.getfield index, 3)) (kk : W p l e R s m args below meth c H locs cells slots Q (F0 m (pc + 3) ls (.ref (O 15) :: rest))) : W p l e R s m args below meth c H locs cells slots Q (F0 m pc ls (.ref (O 0) :: rest)) :=
  va_get (ci := 2) (C := RX2) (T := TX2) (N := 28) hx hb hts hin hown hK hP 0 rfl rfl 19 (by decide) hlink (fun _ h9 => h9) rfl hdg kk
theorem m_ga_16 (hx : p.tables.exec = Jvm.exec) (hb : c.code = cc) (hts : ∀ w ∈ Ts, w.before args s = true) (hin : ∀ w ∈ wsX20, w ∈ Ts) (hown : s.vm.findClass RX2 = some m.cls) (hK : va_K D vwCl (mT K) s) (hP : va_P D vwCl (mW O K σ) H) (hlink : (Cond.fieldLink RX2 index "MailRoomModel" "keptValues" "[J").before args s = true) (hdg : decode cc pc = .ok (.getfield index, 3)) (kk : W p l e R s m args below meth c H locs cells slots Q (F0 m (pc + 3) ls (.ref (O 16) :: rest))) : W p l e R s m args below meth c H locs cells slots Q (F0 m pc ls (.ref (O 0) :: rest)) :=
  va_get (ci := 2) (C := RX2) (T := TX2) (N := 28) hx hb hts hin hown hK hP 0 rfl rfl 20 (by decide) hlink (fun _ h9 => h9) rfl hdg kk
theorem m_gi_la (hx : p.tables.exec = Jvm.exec) (hb : c.code = cc) (hts : ∀ w ∈ Ts, w.before args s = true) (hin : ∀ w ∈ wsX20, w ∈ Ts) (hown : s.vm.findClass RX2 = some m.cls) (hK : va_K D vwCl (mT K) s) (hP : va_P D vwCl (mW O K σ) H) {v : Int32} (hv : m_la σ = v) (hlink : (Cond.fieldLink RX2 index "MailRoomModel" "latest" "I").before args s = true) (hdg : decode cc pc = .ok (.getfield index, 3)) (kk : W p l e R s m args below meth c H locs cells slots Q (F0 m (pc + 3) ls (.int v :: rest))) : W p l e R s m args below meth c H locs cells slots Q (F0 m pc ls (.ref (O 0) :: rest)) := by
  subst hv
  exact va_get (ci := 2) (C := RX2) (T := TX2) (N := 28) hx hb hts hin hown hK hP 0 rfl rfl 21 (by decide) hlink (fun _ h9 => h9) rfl hdg kk
theorem m_pi_la (hx : p.tables.exec = Jvm.exec) (hb : c.code = cc) (hts : ∀ w ∈ Ts, w.before args s = true) (hin : ∀ w ∈ wsX20, w ∈ Ts) (hown : s.vm.findClass RX2 = some m.cls) (hK : va_K D vwCl (mT K) s) (hP : va_P D vwCl (mW O K σ) H) (hD : va_D A (mW O K σ)) (hS : va_S A H0 H locs) (hlink : (Cond.fieldLink RX2 index "MailRoomModel" "latest" "I").before args s = true) (hdg : decode cc pc = .ok (.putfield index, 3)) (kk : ∀ (H1 : Heap) (locs1 : List Loc), va_P D vwCl (mW O K (ms_la σ x)) H1 → va_D A (mW O K (ms_la σ x)) → va_S A H0 H1 locs1 → W p l e R s m args below meth c H1 locs1 cells slots Q (F0 m (pc + 3) ls rest)) : W p l e R s m args below meth c H locs cells slots Q (F0 m pc ls (.int x :: .ref (O 0) :: rest)) :=
  va_put (ci := 2) (C := RX2) (T := TX2) (N := 28) (ty := .int) hx hb hts hin tyX2 tyX2_ok nmX2 hown hK hP hD hS 0 rfl rfl 21 (by decide) hlink (fun _ h9 => h9) rfl rfl rfl rfl (Nat.le_of_ble_eq_true rfl) hdg kk
theorem m_gi_tp (hx : p.tables.exec = Jvm.exec) (hb : c.code = cc) (hts : ∀ w ∈ Ts, w.before args s = true) (hin : ∀ w ∈ wsX20, w ∈ Ts) (hown : s.vm.findClass RX2 = some m.cls) (hK : va_K D vwCl (mT K) s) (hP : va_P D vwCl (mW O K σ) H) {v : Int32} (hv : m_tp σ = v) (hlink : (Cond.fieldLink RX2 index "MailRoomModel" "top" "I").before args s = true) (hdg : decode cc pc = .ok (.getfield index, 3)) (kk : W p l e R s m args below meth c H locs cells slots Q (F0 m (pc + 3) ls (.int v :: rest))) : W p l e R s m args below meth c H locs cells slots Q (F0 m pc ls (.ref (O 0) :: rest)) := by
  subst hv
  exact va_get (ci := 2) (C := RX2) (T := TX2) (N := 28) hx hb hts hin hown hK hP 0 rfl rfl 22 (by decide) hlink (fun _ h9 => h9) rfl hdg kk
theorem m_pi_tp (hx : p.tables.exec = Jvm.exec) (hb : c.code = cc) (hts : ∀ w ∈ Ts, w.before args s = true) (hin : ∀ w ∈ wsX20, w ∈ Ts) (hown : s.vm.findClass RX2 = some m.cls) (hK : va_K D vwCl (mT K) s) (hP : va_P D vwCl (mW O K σ) H) (hD : va_D A (mW O K σ)) (hS : va_S A H0 H locs) (hlink : (Cond.fieldLink RX2 index "MailRoomModel" "top" "I").before args s = true) (hdg : decode cc pc = .ok (.putfield index, 3)) (kk : ∀ (H1 : Heap) (locs1 : List Loc), va_P D vwCl (mW O K (ms_tp σ x)) H1 → va_D A (mW O K (ms_tp σ x)) → va_S A H0 H1 locs1 → W p l e R s m args below meth c H1 locs1 cells slots Q (F0 m (pc + 3) ls rest)) : W p l e R s m args below meth c H locs cells slots Q (F0 m pc ls (.int x :: .ref (O 0) :: rest)) :=
  va_put (ci := 2) (C := RX2) (T := TX2) (N := 28) (ty := .int) hx hb hts hin tyX2 tyX2_ok nmX2 hown hK hP hD hS 0 rfl rfl 22 (by decide) hlink (fun _ h9 => h9) rfl rfl rfl rfl (Nat.le_of_ble_eq_true rfl) hdg kk
theorem m_gi_bg (hx : p.tables.exec = Jvm.exec) (hb : c.code = cc) (hts : ∀ w ∈ Ts, w.before args s = true) (hin : ∀ w ∈ wsX20, w ∈ Ts) (hown : s.vm.findClass RX2 = some m.cls) (hK : va_K D vwCl (mT K) s) (hP : va_P D vwCl (mW O K σ) H) {v : Int32} (hv : m_bg σ = v) (hlink : (Cond.fieldLink RX2 index "MailRoomModel" "begun" "I").before args s = true) (hdg : decode cc pc = .ok (.getfield index, 3)) (kk : W p l e R s m args below meth c H locs cells slots Q (F0 m (pc + 3) ls (.int v :: rest))) : W p l e R s m args below meth c H locs cells slots Q (F0 m pc ls (.ref (O 0) :: rest)) := by
  subst hv
  exact va_get (ci := 2) (C := RX2) (T := TX2) (N := 28) hx hb hts hin hown hK hP 0 rfl rfl 23 (by decide) hlink (fun _ h9 => h9) rfl hdg kk
theorem m_pi_bg (hx : p.tables.exec = Jvm.exec) (hb : c.code = cc) (hts : ∀ w ∈ Ts, w.before args s = true) (hin : ∀ w ∈ wsX20, w ∈ Ts) (hown : s.vm.findClass RX2 = some m.cls) (hK : va_K D vwCl (mT K) s) (hP : va_P D vwCl (mW O K σ) H) (hD : va_D A (mW O K σ)) (hS : va_S A H0 H locs) (hlink : (Cond.fieldLink RX2 index "MailRoomModel" "begun" "I").before args s = true) (hdg : decode cc pc = .ok (.putfield index, 3)) (kk : ∀ (H1 : Heap) (locs1 : List Loc), va_P D vwCl (mW O K (ms_bg σ x)) H1 → va_D A (mW O K (ms_bg σ x)) → va_S A H0 H1 locs1 → W p l e R s m args below meth c H1 locs1 cells slots Q (F0 m (pc + 3) ls rest)) : W p l e R s m args below meth c H locs cells slots Q (F0 m pc ls (.int x :: .ref (O 0) :: rest)) :=
  va_put (ci := 2) (C := RX2) (T := TX2) (N := 28) (ty := .int) hx hb hts hin tyX2 tyX2_ok nmX2 hown hK hP hD hS 0 rfl rfl 23 (by decide) hlink (fun _ h9 => h9) rfl rfl rfl rfl (Nat.le_of_ble_eq_true rfl) hdg kk
theorem m_ga_17 (hx : p.tables.exec = Jvm.exec) (hb : c.code = cc) (hts : ∀ w ∈ Ts, w.before args s = true) (hin : ∀ w ∈ wsX20, w ∈ Ts) (hown : s.vm.findClass RX2 = some m.cls) (hK : va_K D vwCl (mT K) s) (hP : va_P D vwCl (mW O K σ) H) (hlink : (Cond.fieldLink RX2 index "MailRoomModel" "which" "[I").before args s = true) (hdg : decode cc pc = .ok (.getfield index, 3)) (kk : W p l e R s m args below meth c H locs cells slots Q (F0 m (pc + 3) ls (.ref (O 17) :: rest))) : W p l e R s m args below meth c H locs cells slots Q (F0 m pc ls (.ref (O 0) :: rest)) :=
  va_get (ci := 2) (C := RX2) (T := TX2) (N := 28) hx hb hts hin hown hK hP 0 rfl rfl 24 (by decide) hlink (fun _ h9 => h9) rfl hdg kk
theorem m_ga_18 (hx : p.tables.exec = Jvm.exec) (hb : c.code = cc) (hts : ∀ w ∈ Ts, w.before args s = true) (hin : ∀ w ∈ wsX20, w ∈ Ts) (hown : s.vm.findClass RX2 = some m.cls) (hK : va_K D vwCl (mT K) s) (hP : va_P D vwCl (mW O K σ) H) (hlink : (Cond.fieldLink RX2 index "MailRoomModel" "stage" "[I").before args s = true) (hdg : decode cc pc = .ok (.getfield index, 3)) (kk : W p l e R s m args below meth c H locs cells slots Q (F0 m (pc + 3) ls (.ref (O 18) :: rest))) : W p l e R s m args below meth c H locs cells slots Q (F0 m pc ls (.ref (O 0) :: rest)) :=
  va_get (ci := 2) (C := RX2) (T := TX2) (N := 28) hx hb hts hin hown hK hP 0 rfl rfl 25 (by decide) hlink (fun _ h9 => h9) rfl hdg kk
theorem m_ga_19 (hx : p.tables.exec = Jvm.exec) (hb : c.code = cc) (hts : ∀ w ∈ Ts, w.before args s = true) (hin : ∀ w ∈ wsX20, w ∈ Ts) (hown : s.vm.findClass RX2 = some m.cls) (hK : va_K D vwCl (mT K) s) (hP : va_P D vwCl (mW O K σ) H) (hlink : (Cond.fieldLink RX2 index "MailRoomModel" "value" "[J").before args s = true) (hdg : decode cc pc = .ok (.getfield index, 3)) (kk : W p l e R s m args below meth c H locs cells slots Q (F0 m (pc + 3) ls (.ref (O 19) :: rest))) : W p l e R s m args below meth c H locs cells slots Q (F0 m pc ls (.ref (O 0) :: rest)) :=
  va_get (ci := 2) (C := RX2) (T := TX2) (N := 28) hx hb hts hin hown hK hP 0 rfl rfl 26 (by decide) hlink (fun _ h9 => h9) rfl hdg kk
theorem m_gi_fa (hx : p.tables.exec = Jvm.exec) (hb : c.code = cc) (hts : ∀ w ∈ Ts, w.before args s = true) (hin : ∀ w ∈ wsX20, w ∈ Ts) (hown : s.vm.findClass RX2 = some m.cls) (hK : va_K D vwCl (mT K) s) (hP : va_P D vwCl (mW O K σ) H) {v : Int32} (hv : m_fa σ = v) (hlink : (Cond.fieldLink RX2 index "MailRoomModel" "failure" "I").before args s = true) (hdg : decode cc pc = .ok (.getfield index, 3)) (kk : W p l e R s m args below meth c H locs cells slots Q (F0 m (pc + 3) ls (.int v :: rest))) : W p l e R s m args below meth c H locs cells slots Q (F0 m pc ls (.ref (O 0) :: rest)) := by
  subst hv
  exact va_get (ci := 2) (C := RX2) (T := TX2) (N := 28) hx hb hts hin hown hK hP 0 rfl rfl 27 (by decide) hlink (fun _ h9 => h9) rfl hdg kk
theorem m_pi_fa (hx : p.tables.exec = Jvm.exec) (hb : c.code = cc) (hts : ∀ w ∈ Ts, w.before args s = true) (hin : ∀ w ∈ wsX20, w ∈ Ts) (hown : s.vm.findClass RX2 = some m.cls) (hK : va_K D vwCl (mT K) s) (hP : va_P D vwCl (mW O K σ) H) (hD : va_D A (mW O K σ)) (hS : va_S A H0 H locs) (hlink : (Cond.fieldLink RX2 index "MailRoomModel" "failure" "I").before args s = true) (hdg : decode cc pc = .ok (.putfield index, 3)) (kk : ∀ (H1 : Heap) (locs1 : List Loc), va_P D vwCl (mW O K (ms_fa σ x)) H1 → va_D A (mW O K (ms_fa σ x)) → va_S A H0 H1 locs1 → W p l e R s m args below meth c H1 locs1 cells slots Q (F0 m (pc + 3) ls rest)) : W p l e R s m args below meth c H locs cells slots Q (F0 m pc ls (.int x :: .ref (O 0) :: rest)) :=
  va_put (ci := 2) (C := RX2) (T := TX2) (N := 28) (ty := .int) hx hb hts hin tyX2 tyX2_ok nmX2 hown hK hP hD hS 0 rfl rfl 27 (by decide) hlink (fun _ h9 => h9) rfl rfl rfl rfl (Nat.le_of_ble_eq_true rfl) hdg kk
theorem m_ld_su (hx : p.tables.exec = Jvm.exec) (hb : c.code = cc) (hK : va_K D vwCl (mT K) s) (hP : va_P D vwCl (mW O K σ) H) {f : Nat → Int64} (hv : m_su σ = f) (hin : vp_in i 6) (hdg : decode cc pc = .ok (.laload, 1)) (kk : W p l e R s m args below meth c H locs cells slots Q (F0 m (pc + 1) ls (.long (f i.toNatClampNeg) :: rest))) : W p l e R s m args below meth c H locs cells slots Q (F0 m pc ls (.int i :: .ref (O 1) :: rest)) := by
  subst hv
  exact va_lald hx hb hK hP 1 0 rfl rfl hin hdg kk
theorem m_st_su (hx : p.tables.exec = Jvm.exec) (hb : c.code = cc) (hK : va_K D vwCl (mT K) s) (hP : va_P D vwCl (mW O K σ) H) (hD : va_D A (mW O K σ)) (hS : va_S A H0 H locs) {f : Nat → Int64} {z : Int64} (hv : m_su σ = f) (hin : vp_in i 6) (hdg : decode cc pc = .ok (.lastore, 1)) (kk : ∀ (H1 : Heap) (locs1 : List Loc), va_P D vwCl (mW O K (ms_su σ (vp_updL f i.toNatClampNeg z))) H1 → va_D A (mW O K (ms_su σ (vp_updL f i.toNatClampNeg z))) → va_S A H0 H1 locs1 → W p l e R s m args below meth c H1 locs1 cells slots Q (F0 m (pc + 1) ls rest)) : W p l e R s m args below meth c H locs cells slots Q (F0 m pc ls (.long z :: .int i :: .ref (O 1) :: rest)) := by
  subst hv
  exact va_last hx hb hK hP hD hS 1 0 rfl rfl hin hdg kk
theorem m_ld_co (hx : p.tables.exec = Jvm.exec) (hb : c.code = cc) (hK : va_K D vwCl (mT K) s) (hP : va_P D vwCl (mW O K σ) H) {f : Nat → Int32} (hv : m_co σ = f) (hin : vp_in i 6) (hdg : decode cc pc = .ok (.iaload, 1)) (kk : W p l e R s m args below meth c H locs cells slots Q (F0 m (pc + 1) ls (.int (f i.toNatClampNeg) :: rest))) : W p l e R s m args below meth c H locs cells slots Q (F0 m pc ls (.int i :: .ref (O 2) :: rest)) := by
  subst hv
  exact va_iald hx hb hK hP 2 1 rfl rfl hin hdg kk
theorem m_st_co (hx : p.tables.exec = Jvm.exec) (hb : c.code = cc) (hK : va_K D vwCl (mT K) s) (hP : va_P D vwCl (mW O K σ) H) (hD : va_D A (mW O K σ)) (hS : va_S A H0 H locs) {f : Nat → Int32} {z : Int32} (hv : m_co σ = f) (hin : vp_in i 6) (hdg : decode cc pc = .ok (.iastore, 1)) (kk : ∀ (H1 : Heap) (locs1 : List Loc), va_P D vwCl (mW O K (ms_co σ (upd f i.toNatClampNeg z))) H1 → va_D A (mW O K (ms_co σ (upd f i.toNatClampNeg z))) → va_S A H0 H1 locs1 → W p l e R s m args below meth c H1 locs1 cells slots Q (F0 m (pc + 1) ls rest)) : W p l e R s m args below meth c H locs cells slots Q (F0 m pc ls (.int z :: .int i :: .ref (O 2) :: rest)) := by
  subst hv
  exact va_iast hx hb hK hP hD hS 2 1 rfl rfl hin hdg kk
theorem m_ld_so (hx : p.tables.exec = Jvm.exec) (hb : c.code = cc) (hK : va_K D vwCl (mT K) s) (hP : va_P D vwCl (mW O K σ) H) {f : Nat → Int32} (hv : m_so σ = f) (hin : vp_in i 202) (hdg : decode cc pc = .ok (.iaload, 1)) (kk : W p l e R s m args below meth c H locs cells slots Q (F0 m (pc + 1) ls (.int (f i.toNatClampNeg) :: rest))) : W p l e R s m args below meth c H locs cells slots Q (F0 m pc ls (.int i :: .ref (O 3) :: rest)) := by
  subst hv
  exact va_iald hx hb hK hP 3 2 rfl rfl hin hdg kk
theorem m_st_so (hx : p.tables.exec = Jvm.exec) (hb : c.code = cc) (hK : va_K D vwCl (mT K) s) (hP : va_P D vwCl (mW O K σ) H) (hD : va_D A (mW O K σ)) (hS : va_S A H0 H locs) {f : Nat → Int32} {z : Int32} (hv : m_so σ = f) (hin : vp_in i 202) (hdg : decode cc pc = .ok (.iastore, 1)) (kk : ∀ (H1 : Heap) (locs1 : List Loc), va_P D vwCl (mW O K (ms_so σ (upd f i.toNatClampNeg z))) H1 → va_D A (mW O K (ms_so σ (upd f i.toNatClampNeg z))) → va_S A H0 H1 locs1 → W p l e R s m args below meth c H1 locs1 cells slots Q (F0 m (pc + 1) ls rest)) : W p l e R s m args below meth c H locs cells slots Q (F0 m pc ls (.int z :: .int i :: .ref (O 3) :: rest)) := by
  subst hv
  exact va_iast hx hb hK hP hD hS 3 2 rfl rfl hin hdg kk
theorem m_ld_ki (hx : p.tables.exec = Jvm.exec) (hb : c.code = cc) (hK : va_K D vwCl (mT K) s) (hP : va_P D vwCl (mW O K σ) H) {f : Nat → Int32} (hv : m_ki σ = f) (hin : vp_in i 202) (hdg : decode cc pc = .ok (.iaload, 1)) (kk : W p l e R s m args below meth c H locs cells slots Q (F0 m (pc + 1) ls (.int (f i.toNatClampNeg) :: rest))) : W p l e R s m args below meth c H locs cells slots Q (F0 m pc ls (.int i :: .ref (O 4) :: rest)) := by
  subst hv
  exact va_iald hx hb hK hP 4 3 rfl rfl hin hdg kk
theorem m_st_ki (hx : p.tables.exec = Jvm.exec) (hb : c.code = cc) (hK : va_K D vwCl (mT K) s) (hP : va_P D vwCl (mW O K σ) H) (hD : va_D A (mW O K σ)) (hS : va_S A H0 H locs) {f : Nat → Int32} {z : Int32} (hv : m_ki σ = f) (hin : vp_in i 202) (hdg : decode cc pc = .ok (.iastore, 1)) (kk : ∀ (H1 : Heap) (locs1 : List Loc), va_P D vwCl (mW O K (ms_ki σ (upd f i.toNatClampNeg z))) H1 → va_D A (mW O K (ms_ki σ (upd f i.toNatClampNeg z))) → va_S A H0 H1 locs1 → W p l e R s m args below meth c H1 locs1 cells slots Q (F0 m (pc + 1) ls rest)) : W p l e R s m args below meth c H locs cells slots Q (F0 m pc ls (.int z :: .int i :: .ref (O 4) :: rest)) := by
  subst hv
  exact va_iast hx hb hK hP hD hS 4 3 rfl rfl hin hdg kk
theorem m_ld_as (hx : p.tables.exec = Jvm.exec) (hb : c.code = cc) (hK : va_K D vwCl (mT K) s) (hP : va_P D vwCl (mW O K σ) H) {f : Nat → Int32} (hv : m_as σ = f) (hin : vp_in i 202) (hdg : decode cc pc = .ok (.iaload, 1)) (kk : W p l e R s m args below meth c H locs cells slots Q (F0 m (pc + 1) ls (.int (f i.toNatClampNeg) :: rest))) : W p l e R s m args below meth c H locs cells slots Q (F0 m pc ls (.int i :: .ref (O 5) :: rest)) := by
  subst hv
  exact va_iald hx hb hK hP 5 4 rfl rfl hin hdg kk
theorem m_st_as (hx : p.tables.exec = Jvm.exec) (hb : c.code = cc) (hK : va_K D vwCl (mT K) s) (hP : va_P D vwCl (mW O K σ) H) (hD : va_D A (mW O K σ)) (hS : va_S A H0 H locs) {f : Nat → Int32} {z : Int32} (hv : m_as σ = f) (hin : vp_in i 202) (hdg : decode cc pc = .ok (.iastore, 1)) (kk : ∀ (H1 : Heap) (locs1 : List Loc), va_P D vwCl (mW O K (ms_as σ (upd f i.toNatClampNeg z))) H1 → va_D A (mW O K (ms_as σ (upd f i.toNatClampNeg z))) → va_S A H0 H1 locs1 → W p l e R s m args below meth c H1 locs1 cells slots Q (F0 m (pc + 1) ls rest)) : W p l e R s m args below meth c H locs cells slots Q (F0 m pc ls (.int z :: .int i :: .ref (O 5) :: rest)) := by
  subst hv
  exact va_iast hx hb hK hP hD hS 5 4 rfl rfl hin hdg kk
theorem m_ld_bs (hx : p.tables.exec = Jvm.exec) (hb : c.code = cc) (hK : va_K D vwCl (mT K) s) (hP : va_P D vwCl (mW O K σ) H) {f : Nat → Int32} (hv : m_bs σ = f) (hin : vp_in i 202) (hdg : decode cc pc = .ok (.iaload, 1)) (kk : W p l e R s m args below meth c H locs cells slots Q (F0 m (pc + 1) ls (.int (f i.toNatClampNeg) :: rest))) : W p l e R s m args below meth c H locs cells slots Q (F0 m pc ls (.int i :: .ref (O 6) :: rest)) := by
  subst hv
  exact va_iald hx hb hK hP 6 5 rfl rfl hin hdg kk
theorem m_st_bs (hx : p.tables.exec = Jvm.exec) (hb : c.code = cc) (hK : va_K D vwCl (mT K) s) (hP : va_P D vwCl (mW O K σ) H) (hD : va_D A (mW O K σ)) (hS : va_S A H0 H locs) {f : Nat → Int32} {z : Int32} (hv : m_bs σ = f) (hin : vp_in i 202) (hdg : decode cc pc = .ok (.iastore, 1)) (kk : ∀ (H1 : Heap) (locs1 : List Loc), va_P D vwCl (mW O K (ms_bs σ (upd f i.toNatClampNeg z))) H1 → va_D A (mW O K (ms_bs σ (upd f i.toNatClampNeg z))) → va_S A H0 H1 locs1 → W p l e R s m args below meth c H1 locs1 cells slots Q (F0 m (pc + 1) ls rest)) : W p l e R s m args below meth c H locs cells slots Q (F0 m pc ls (.int z :: .int i :: .ref (O 6) :: rest)) := by
  subst hv
  exact va_iast hx hb hK hP hD hS 6 5 rfl rfl hin hdg kk
theorem m_ld_cs (hx : p.tables.exec = Jvm.exec) (hb : c.code = cc) (hK : va_K D vwCl (mT K) s) (hP : va_P D vwCl (mW O K σ) H) {f : Nat → Int64} (hv : m_cs σ = f) (hin : vp_in i 202) (hdg : decode cc pc = .ok (.laload, 1)) (kk : W p l e R s m args below meth c H locs cells slots Q (F0 m (pc + 1) ls (.long (f i.toNatClampNeg) :: rest))) : W p l e R s m args below meth c H locs cells slots Q (F0 m pc ls (.int i :: .ref (O 7) :: rest)) := by
  subst hv
  exact va_lald hx hb hK hP 7 6 rfl rfl hin hdg kk
theorem m_st_cs (hx : p.tables.exec = Jvm.exec) (hb : c.code = cc) (hK : va_K D vwCl (mT K) s) (hP : va_P D vwCl (mW O K σ) H) (hD : va_D A (mW O K σ)) (hS : va_S A H0 H locs) {f : Nat → Int64} {z : Int64} (hv : m_cs σ = f) (hin : vp_in i 202) (hdg : decode cc pc = .ok (.lastore, 1)) (kk : ∀ (H1 : Heap) (locs1 : List Loc), va_P D vwCl (mW O K (ms_cs σ (vp_updL f i.toNatClampNeg z))) H1 → va_D A (mW O K (ms_cs σ (vp_updL f i.toNatClampNeg z))) → va_S A H0 H1 locs1 → W p l e R s m args below meth c H1 locs1 cells slots Q (F0 m (pc + 1) ls rest)) : W p l e R s m args below meth c H locs cells slots Q (F0 m pc ls (.long z :: .int i :: .ref (O 7) :: rest)) := by
  subst hv
  exact va_last hx hb hK hP hD hS 7 6 rfl rfl hin hdg kk
theorem m_ld_fo (hx : p.tables.exec = Jvm.exec) (hb : c.code = cc) (hK : va_K D vwCl (mT K) s) (hP : va_P D vwCl (mW O K σ) H) {f : Nat → Int32} (hv : m_fo σ = f) (hin : vp_in i 202) (hdg : decode cc pc = .ok (.iaload, 1)) (kk : W p l e R s m args below meth c H locs cells slots Q (F0 m (pc + 1) ls (.int (f i.toNatClampNeg) :: rest))) : W p l e R s m args below meth c H locs cells slots Q (F0 m pc ls (.int i :: .ref (O 8) :: rest)) := by
  subst hv
  exact va_iald hx hb hK hP 8 7 rfl rfl hin hdg kk
theorem m_st_fo (hx : p.tables.exec = Jvm.exec) (hb : c.code = cc) (hK : va_K D vwCl (mT K) s) (hP : va_P D vwCl (mW O K σ) H) (hD : va_D A (mW O K σ)) (hS : va_S A H0 H locs) {f : Nat → Int32} {z : Int32} (hv : m_fo σ = f) (hin : vp_in i 202) (hdg : decode cc pc = .ok (.iastore, 1)) (kk : ∀ (H1 : Heap) (locs1 : List Loc), va_P D vwCl (mW O K (ms_fo σ (upd f i.toNatClampNeg z))) H1 → va_D A (mW O K (ms_fo σ (upd f i.toNatClampNeg z))) → va_S A H0 H1 locs1 → W p l e R s m args below meth c H1 locs1 cells slots Q (F0 m (pc + 1) ls rest)) : W p l e R s m args below meth c H locs cells slots Q (F0 m pc ls (.int z :: .int i :: .ref (O 8) :: rest)) := by
  subst hv
  exact va_iast hx hb hK hP hD hS 8 7 rfl rfl hin hdg kk
theorem m_ld_ot (hx : p.tables.exec = Jvm.exec) (hb : c.code = cc) (hK : va_K D vwCl (mT K) s) (hP : va_P D vwCl (mW O K σ) H) {f : Nat → Int32} (hv : m_ot σ = f) (hin : vp_in i 202) (hdg : decode cc pc = .ok (.iaload, 1)) (kk : W p l e R s m args below meth c H locs cells slots Q (F0 m (pc + 1) ls (.int (f i.toNatClampNeg) :: rest))) : W p l e R s m args below meth c H locs cells slots Q (F0 m pc ls (.int i :: .ref (O 9) :: rest)) := by
  subst hv
  exact va_iald hx hb hK hP 9 8 rfl rfl hin hdg kk
theorem m_st_ot (hx : p.tables.exec = Jvm.exec) (hb : c.code = cc) (hK : va_K D vwCl (mT K) s) (hP : va_P D vwCl (mW O K σ) H) (hD : va_D A (mW O K σ)) (hS : va_S A H0 H locs) {f : Nat → Int32} {z : Int32} (hv : m_ot σ = f) (hin : vp_in i 202) (hdg : decode cc pc = .ok (.iastore, 1)) (kk : ∀ (H1 : Heap) (locs1 : List Loc), va_P D vwCl (mW O K (ms_ot σ (upd f i.toNatClampNeg z))) H1 → va_D A (mW O K (ms_ot σ (upd f i.toNatClampNeg z))) → va_S A H0 H1 locs1 → W p l e R s m args below meth c H1 locs1 cells slots Q (F0 m (pc + 1) ls rest)) : W p l e R s m args below meth c H locs cells slots Q (F0 m pc ls (.int z :: .int i :: .ref (O 9) :: rest)) := by
  subst hv
  exact va_iast hx hb hK hP hD hS 9 8 rfl rfl hin hdg kk
theorem m_ld_le (hx : p.tables.exec = Jvm.exec) (hb : c.code = cc) (hK : va_K D vwCl (mT K) s) (hP : va_P D vwCl (mW O K σ) H) {f : Nat → Int32} (hv : m_le σ = f) (hin : vp_in i 202) (hdg : decode cc pc = .ok (.iaload, 1)) (kk : W p l e R s m args below meth c H locs cells slots Q (F0 m (pc + 1) ls (.int (f i.toNatClampNeg) :: rest))) : W p l e R s m args below meth c H locs cells slots Q (F0 m pc ls (.int i :: .ref (O 10) :: rest)) := by
  subst hv
  exact va_iald hx hb hK hP 10 9 rfl rfl hin hdg kk
theorem m_st_le (hx : p.tables.exec = Jvm.exec) (hb : c.code = cc) (hK : va_K D vwCl (mT K) s) (hP : va_P D vwCl (mW O K σ) H) (hD : va_D A (mW O K σ)) (hS : va_S A H0 H locs) {f : Nat → Int32} {z : Int32} (hv : m_le σ = f) (hin : vp_in i 202) (hdg : decode cc pc = .ok (.iastore, 1)) (kk : ∀ (H1 : Heap) (locs1 : List Loc), va_P D vwCl (mW O K (ms_le σ (upd f i.toNatClampNeg z))) H1 → va_D A (mW O K (ms_le σ (upd f i.toNatClampNeg z))) → va_S A H0 H1 locs1 → W p l e R s m args below meth c H1 locs1 cells slots Q (F0 m (pc + 1) ls rest)) : W p l e R s m args below meth c H locs cells slots Q (F0 m pc ls (.int z :: .int i :: .ref (O 10) :: rest)) := by
  subst hv
  exact va_iast hx hb hK hP hD hS 10 9 rfl rfl hin hdg kk
theorem m_ld_st (hx : p.tables.exec = Jvm.exec) (hb : c.code = cc) (hK : va_K D vwCl (mT K) s) (hP : va_P D vwCl (mW O K σ) H) {f : Nat → Int32} (hv : m_st σ = f) (hin : vp_in i 10) (hdg : decode cc pc = .ok (.iaload, 1)) (kk : W p l e R s m args below meth c H locs cells slots Q (F0 m (pc + 1) ls (.int (f i.toNatClampNeg) :: rest))) : W p l e R s m args below meth c H locs cells slots Q (F0 m pc ls (.int i :: .ref (O 11) :: rest)) := by
  subst hv
  exact va_iald hx hb hK hP 11 10 rfl rfl hin hdg kk
theorem m_st_st (hx : p.tables.exec = Jvm.exec) (hb : c.code = cc) (hK : va_K D vwCl (mT K) s) (hP : va_P D vwCl (mW O K σ) H) (hD : va_D A (mW O K σ)) (hS : va_S A H0 H locs) {f : Nat → Int32} {z : Int32} (hv : m_st σ = f) (hin : vp_in i 10) (hdg : decode cc pc = .ok (.iastore, 1)) (kk : ∀ (H1 : Heap) (locs1 : List Loc), va_P D vwCl (mW O K (ms_st σ (upd f i.toNatClampNeg z))) H1 → va_D A (mW O K (ms_st σ (upd f i.toNatClampNeg z))) → va_S A H0 H1 locs1 → W p l e R s m args below meth c H1 locs1 cells slots Q (F0 m (pc + 1) ls rest)) : W p l e R s m args below meth c H locs cells slots Q (F0 m pc ls (.int z :: .int i :: .ref (O 11) :: rest)) := by
  subst hv
  exact va_iast hx hb hK hP hD hS 11 10 rfl rfl hin hdg kk
theorem m_ld_qk (hx : p.tables.exec = Jvm.exec) (hb : c.code = cc) (hK : va_K D vwCl (mT K) s) (hP : va_P D vwCl (mW O K σ) H) {f : Nat → Int32} (hv : m_qk σ = f) (hin : vp_in i 40) (hdg : decode cc pc = .ok (.iaload, 1)) (kk : W p l e R s m args below meth c H locs cells slots Q (F0 m (pc + 1) ls (.int (f i.toNatClampNeg) :: rest))) : W p l e R s m args below meth c H locs cells slots Q (F0 m pc ls (.int i :: .ref (O 12) :: rest)) := by
  subst hv
  exact va_iald hx hb hK hP 12 11 rfl rfl hin hdg kk
theorem m_st_qk (hx : p.tables.exec = Jvm.exec) (hb : c.code = cc) (hK : va_K D vwCl (mT K) s) (hP : va_P D vwCl (mW O K σ) H) (hD : va_D A (mW O K σ)) (hS : va_S A H0 H locs) {f : Nat → Int32} {z : Int32} (hv : m_qk σ = f) (hin : vp_in i 40) (hdg : decode cc pc = .ok (.iastore, 1)) (kk : ∀ (H1 : Heap) (locs1 : List Loc), va_P D vwCl (mW O K (ms_qk σ (upd f i.toNatClampNeg z))) H1 → va_D A (mW O K (ms_qk σ (upd f i.toNatClampNeg z))) → va_S A H0 H1 locs1 → W p l e R s m args below meth c H1 locs1 cells slots Q (F0 m (pc + 1) ls rest)) : W p l e R s m args below meth c H locs cells slots Q (F0 m pc ls (.int z :: .int i :: .ref (O 12) :: rest)) := by
  subst hv
  exact va_iast hx hb hK hP hD hS 12 11 rfl rfl hin hdg kk
theorem m_ld_qv (hx : p.tables.exec = Jvm.exec) (hb : c.code = cc) (hK : va_K D vwCl (mT K) s) (hP : va_P D vwCl (mW O K σ) H) {f : Nat → Int64} (hv : m_qv σ = f) (hin : vp_in i 40) (hdg : decode cc pc = .ok (.laload, 1)) (kk : W p l e R s m args below meth c H locs cells slots Q (F0 m (pc + 1) ls (.long (f i.toNatClampNeg) :: rest))) : W p l e R s m args below meth c H locs cells slots Q (F0 m pc ls (.int i :: .ref (O 13) :: rest)) := by
  subst hv
  exact va_lald hx hb hK hP 13 12 rfl rfl hin hdg kk
theorem m_st_qv (hx : p.tables.exec = Jvm.exec) (hb : c.code = cc) (hK : va_K D vwCl (mT K) s) (hP : va_P D vwCl (mW O K σ) H) (hD : va_D A (mW O K σ)) (hS : va_S A H0 H locs) {f : Nat → Int64} {z : Int64} (hv : m_qv σ = f) (hin : vp_in i 40) (hdg : decode cc pc = .ok (.lastore, 1)) (kk : ∀ (H1 : Heap) (locs1 : List Loc), va_P D vwCl (mW O K (ms_qv σ (vp_updL f i.toNatClampNeg z))) H1 → va_D A (mW O K (ms_qv σ (vp_updL f i.toNatClampNeg z))) → va_S A H0 H1 locs1 → W p l e R s m args below meth c H1 locs1 cells slots Q (F0 m (pc + 1) ls rest)) : W p l e R s m args below meth c H locs cells slots Q (F0 m pc ls (.long z :: .int i :: .ref (O 13) :: rest)) := by
  subst hv
  exact va_last hx hb hK hP hD hS 13 12 rfl rfl hin hdg kk
theorem m_ld_kk (hx : p.tables.exec = Jvm.exec) (hb : c.code = cc) (hK : va_K D vwCl (mT K) s) (hP : va_P D vwCl (mW O K σ) H) {f : Nat → Int32} (hv : m_kk σ = f) (hin : vp_in i 30) (hdg : decode cc pc = .ok (.iaload, 1)) (kk : W p l e R s m args below meth c H locs cells slots Q (F0 m (pc + 1) ls (.int (f i.toNatClampNeg) :: rest))) : W p l e R s m args below meth c H locs cells slots Q (F0 m pc ls (.int i :: .ref (O 14) :: rest)) := by
  subst hv
  exact va_iald hx hb hK hP 14 13 rfl rfl hin hdg kk
theorem m_st_kk (hx : p.tables.exec = Jvm.exec) (hb : c.code = cc) (hK : va_K D vwCl (mT K) s) (hP : va_P D vwCl (mW O K σ) H) (hD : va_D A (mW O K σ)) (hS : va_S A H0 H locs) {f : Nat → Int32} {z : Int32} (hv : m_kk σ = f) (hin : vp_in i 30) (hdg : decode cc pc = .ok (.iastore, 1)) (kk : ∀ (H1 : Heap) (locs1 : List Loc), va_P D vwCl (mW O K (ms_kk σ (upd f i.toNatClampNeg z))) H1 → va_D A (mW O K (ms_kk σ (upd f i.toNatClampNeg z))) → va_S A H0 H1 locs1 → W p l e R s m args below meth c H1 locs1 cells slots Q (F0 m (pc + 1) ls rest)) : W p l e R s m args below meth c H locs cells slots Q (F0 m pc ls (.int z :: .int i :: .ref (O 14) :: rest)) := by
  subst hv
  exact va_iast hx hb hK hP hD hS 14 13 rfl rfl hin hdg kk
theorem m_ld_kf (hx : p.tables.exec = Jvm.exec) (hb : c.code = cc) (hK : va_K D vwCl (mT K) s) (hP : va_P D vwCl (mW O K σ) H) {f : Nat → Int32} (hv : m_kf σ = f) (hin : vp_in i 30) (hdg : decode cc pc = .ok (.iaload, 1)) (kk : W p l e R s m args below meth c H locs cells slots Q (F0 m (pc + 1) ls (.int (f i.toNatClampNeg) :: rest))) : W p l e R s m args below meth c H locs cells slots Q (F0 m pc ls (.int i :: .ref (O 15) :: rest)) := by
  subst hv
  exact va_iald hx hb hK hP 15 14 rfl rfl hin hdg kk
theorem m_st_kf (hx : p.tables.exec = Jvm.exec) (hb : c.code = cc) (hK : va_K D vwCl (mT K) s) (hP : va_P D vwCl (mW O K σ) H) (hD : va_D A (mW O K σ)) (hS : va_S A H0 H locs) {f : Nat → Int32} {z : Int32} (hv : m_kf σ = f) (hin : vp_in i 30) (hdg : decode cc pc = .ok (.iastore, 1)) (kk : ∀ (H1 : Heap) (locs1 : List Loc), va_P D vwCl (mW O K (ms_kf σ (upd f i.toNatClampNeg z))) H1 → va_D A (mW O K (ms_kf σ (upd f i.toNatClampNeg z))) → va_S A H0 H1 locs1 → W p l e R s m args below meth c H1 locs1 cells slots Q (F0 m (pc + 1) ls rest)) : W p l e R s m args below meth c H locs cells slots Q (F0 m pc ls (.int z :: .int i :: .ref (O 15) :: rest)) := by
  subst hv
  exact va_iast hx hb hK hP hD hS 15 14 rfl rfl hin hdg kk
theorem m_ld_kv (hx : p.tables.exec = Jvm.exec) (hb : c.code = cc) (hK : va_K D vwCl (mT K) s) (hP : va_P D vwCl (mW O K σ) H) {f : Nat → Int64} (hv : m_kv σ = f) (hin : vp_in i 30) (hdg : decode cc pc = .ok (.laload, 1)) (kk : W p l e R s m args below meth c H locs cells slots Q (F0 m (pc + 1) ls (.long (f i.toNatClampNeg) :: rest))) : W p l e R s m args below meth c H locs cells slots Q (F0 m pc ls (.int i :: .ref (O 16) :: rest)) := by
  subst hv
  exact va_lald hx hb hK hP 16 15 rfl rfl hin hdg kk
theorem m_st_kv (hx : p.tables.exec = Jvm.exec) (hb : c.code = cc) (hK : va_K D vwCl (mT K) s) (hP : va_P D vwCl (mW O K σ) H) (hD : va_D A (mW O K σ)) (hS : va_S A H0 H locs) {f : Nat → Int64} {z : Int64} (hv : m_kv σ = f) (hin : vp_in i 30) (hdg : decode cc pc = .ok (.lastore, 1)) (kk : ∀ (H1 : Heap) (locs1 : List Loc), va_P D vwCl (mW O K (ms_kv σ (vp_updL f i.toNatClampNeg z))) H1 → va_D A (mW O K (ms_kv σ (vp_updL f i.toNatClampNeg z))) → va_S A H0 H1 locs1 → W p l e R s m args below meth c H1 locs1 cells slots Q (F0 m (pc + 1) ls rest)) : W p l e R s m args below meth c H locs cells slots Q (F0 m pc ls (.long z :: .int i :: .ref (O 16) :: rest)) := by
  subst hv
  exact va_last hx hb hK hP hD hS 16 15 rfl rfl hin hdg kk
theorem m_ld_wh (hx : p.tables.exec = Jvm.exec) (hb : c.code = cc) (hK : va_K D vwCl (mT K) s) (hP : va_P D vwCl (mW O K σ) H) {f : Nat → Int32} (hv : m_wh σ = f) (hin : vp_in i 8) (hdg : decode cc pc = .ok (.iaload, 1)) (kk : W p l e R s m args below meth c H locs cells slots Q (F0 m (pc + 1) ls (.int (f i.toNatClampNeg) :: rest))) : W p l e R s m args below meth c H locs cells slots Q (F0 m pc ls (.int i :: .ref (O 17) :: rest)) := by
  subst hv
  exact va_iald hx hb hK hP 17 16 rfl rfl hin hdg kk
theorem m_st_wh (hx : p.tables.exec = Jvm.exec) (hb : c.code = cc) (hK : va_K D vwCl (mT K) s) (hP : va_P D vwCl (mW O K σ) H) (hD : va_D A (mW O K σ)) (hS : va_S A H0 H locs) {f : Nat → Int32} {z : Int32} (hv : m_wh σ = f) (hin : vp_in i 8) (hdg : decode cc pc = .ok (.iastore, 1)) (kk : ∀ (H1 : Heap) (locs1 : List Loc), va_P D vwCl (mW O K (ms_wh σ (upd f i.toNatClampNeg z))) H1 → va_D A (mW O K (ms_wh σ (upd f i.toNatClampNeg z))) → va_S A H0 H1 locs1 → W p l e R s m args below meth c H1 locs1 cells slots Q (F0 m (pc + 1) ls rest)) : W p l e R s m args below meth c H locs cells slots Q (F0 m pc ls (.int z :: .int i :: .ref (O 17) :: rest)) := by
  subst hv
  exact va_iast hx hb hK hP hD hS 17 16 rfl rfl hin hdg kk
theorem m_ld_sg (hx : p.tables.exec = Jvm.exec) (hb : c.code = cc) (hK : va_K D vwCl (mT K) s) (hP : va_P D vwCl (mW O K σ) H) {f : Nat → Int32} (hv : m_sg σ = f) (hin : vp_in i 8) (hdg : decode cc pc = .ok (.iaload, 1)) (kk : W p l e R s m args below meth c H locs cells slots Q (F0 m (pc + 1) ls (.int (f i.toNatClampNeg) :: rest))) : W p l e R s m args below meth c H locs cells slots Q (F0 m pc ls (.int i :: .ref (O 18) :: rest)) := by
  subst hv
  exact va_iald hx hb hK hP 18 17 rfl rfl hin hdg kk
theorem m_st_sg (hx : p.tables.exec = Jvm.exec) (hb : c.code = cc) (hK : va_K D vwCl (mT K) s) (hP : va_P D vwCl (mW O K σ) H) (hD : va_D A (mW O K σ)) (hS : va_S A H0 H locs) {f : Nat → Int32} {z : Int32} (hv : m_sg σ = f) (hin : vp_in i 8) (hdg : decode cc pc = .ok (.iastore, 1)) (kk : ∀ (H1 : Heap) (locs1 : List Loc), va_P D vwCl (mW O K (ms_sg σ (upd f i.toNatClampNeg z))) H1 → va_D A (mW O K (ms_sg σ (upd f i.toNatClampNeg z))) → va_S A H0 H1 locs1 → W p l e R s m args below meth c H1 locs1 cells slots Q (F0 m (pc + 1) ls rest)) : W p l e R s m args below meth c H locs cells slots Q (F0 m pc ls (.int z :: .int i :: .ref (O 18) :: rest)) := by
  subst hv
  exact va_iast hx hb hK hP hD hS 18 17 rfl rfl hin hdg kk
theorem m_ld_va (hx : p.tables.exec = Jvm.exec) (hb : c.code = cc) (hK : va_K D vwCl (mT K) s) (hP : va_P D vwCl (mW O K σ) H) {f : Nat → Int64} (hv : m_va σ = f) (hin : vp_in i 8) (hdg : decode cc pc = .ok (.laload, 1)) (kk : W p l e R s m args below meth c H locs cells slots Q (F0 m (pc + 1) ls (.long (f i.toNatClampNeg) :: rest))) : W p l e R s m args below meth c H locs cells slots Q (F0 m pc ls (.int i :: .ref (O 19) :: rest)) := by
  subst hv
  exact va_lald hx hb hK hP 19 18 rfl rfl hin hdg kk
theorem m_st_va (hx : p.tables.exec = Jvm.exec) (hb : c.code = cc) (hK : va_K D vwCl (mT K) s) (hP : va_P D vwCl (mW O K σ) H) (hD : va_D A (mW O K σ)) (hS : va_S A H0 H locs) {f : Nat → Int64} {z : Int64} (hv : m_va σ = f) (hin : vp_in i 8) (hdg : decode cc pc = .ok (.lastore, 1)) (kk : ∀ (H1 : Heap) (locs1 : List Loc), va_P D vwCl (mW O K (ms_va σ (vp_updL f i.toNatClampNeg z))) H1 → va_D A (mW O K (ms_va σ (vp_updL f i.toNatClampNeg z))) → va_S A H0 H1 locs1 → W p l e R s m args below meth c H1 locs1 cells slots Q (F0 m (pc + 1) ls rest)) : W p l e R s m args below meth c H locs cells slots Q (F0 m pc ls (.long z :: .int i :: .ref (O 19) :: rest)) := by
  subst hv
  exact va_last hx hb hK hP hD hS 19 18 rfl rfl hin hdg kk
end MROWS
