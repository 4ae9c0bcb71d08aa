noncomputable def mStep (σ : SM) : SM := if m_sg σ (m_tp σ - 1).toNatClampNeg = 0 then mf_begins (m_tp σ - 1) (m_wh σ (m_tp σ - 1).toNatClampNeg) (m_va σ (m_tp σ - 1).toNatClampNeg) σ else mf_behind (m_tp σ - 1) (m_wh σ (m_tp σ - 1).toNatClampNeg) (m_va σ (m_tp σ - 1).toNatClampNeg) σ
def mBOK (ix h : Int32) (v : Int64) (σ : SM) : Prop :=
  vp_in h 202 ∧ vp_in ix 8 ∧ (¬ m_tp σ = 8 → vp_in (m_tp σ) 8) ∧ (¬ m_sz σ = 40 → vp_in (m_sz σ) 40) ∧ (m_so σ h.toNatClampNeg = 0 → vp_in (m_as σ h.toNatClampNeg) 6) ∧ (m_so σ h.toNatClampNeg = 3 → vp_in (m_as σ h.toNatClampNeg) 10) ∧ (m_so σ h.toNatClampNeg = 6 → vp_in (m_as σ h.toNatClampNeg) 6 ∧ vp_in (m_ki σ h.toNatClampNeg) 10) ∧ (m_so σ h.toNatClampNeg = 8 → vp_in (m_as σ h.toNatClampNeg) 6 ∧ vp_in (m_bs σ h.toNatClampNeg) 6) ∧ (m_so σ h.toNatClampNeg = 11 → vp_in (m_as σ h.toNatClampNeg) 6 ∧ ¬ (m_co (mf_keep (m_as σ h.toNatClampNeg) v σ) (m_as σ h.toNatClampNeg).toNatClampNeg).toInt64 = 0) ∧ (m_so σ h.toNatClampNeg = 10 → vp_in (m_as σ h.toNatClampNeg) 6)
def mLOK (σ : SM) : Prop := ¬ m_tp σ ≤ 0 ∧ mBOK (m_tp σ - 1) (m_wh σ (m_tp σ - 1).toNatClampNeg) (m_va σ (m_tp σ - 1).toNatClampNeg) σ
/-- the reference's own loop comes from one state to the other -/
def mReach (σ τ : SM) : Prop := ∀ P : SM → Prop, (∀ σ, mLOK σ → P (mStep σ) → P σ) → P τ → P σ
theorem mReach.refl (σ : SM) : mReach σ σ := fun _ _ h => h
theorem mReach.trans {a b c : SM} (h : mReach a b) (k : mReach b c) : mReach a c := fun P hs hc => h P hs (k P hs hc)
theorem mReach.step {a b : SM} (h : mLOK a) (k : mReach (mStep a) b) : mReach a b := fun P hs hb => hs a h (k P hs hb)
theorem z_v08 : vp_in (0 : Int32) 8 := vp_in_nI (n := 0) (by decide) (by decide)
/-- give, of the reference -/
def mGv (k : Int32) (v : Int64) (σ : SM) (RR : Int32 × SM) : Prop :=
  (mf_isKind k = 0 → RR = (-2, σ)) ∧ (¬ mf_isKind k = 0 → ∃ τ, mReach (mf_call (m_st σ k.toNatClampNeg) v (ms_bg (ms_tp (ms_la σ 0) 0) 0)) τ ∧ m_tp τ ≤ 0 ∧ RR = (if m_fa τ = 0 then (1, ms_la τ (m_la τ + m_bg τ)) else (-10 - m_fa τ, ms_la τ (m_la τ + m_bg τ))))
set_option maxRecDepth 100000 in
set_option maxHeartbeats 4000000 in
theorem cMM_goL {p : Program} {l : Launch} {e : Env} {s : State} {m : MethodId} {args : Array Value} {below : List Frame} {meth : Method} {c : Code} {A : Nat → Prop} {D : va_G} {O : Nat → Nat} {K : Nat → ClassId} (XX : CallFix p m c cX2_go 5 s args wsX2_go RX2) (hr : meth.sig.returnType = none) (hlocks : meth.locks = false) (hA : ∀ q : Nat, s.heap.size ≤ q → A q) (hK : va_K D vwCl (mT K) s) (τ : SM) (ht : m_tp τ ≤ 0) : ∀ σ : SM, mReach σ τ → ∀ (H : Heap) (locs : List Loc) (ls : Array Slot), va_P D vwCl (mW O K σ) H → va_D A (mW O K σ) → va_S A s.heap H locs → lv_has ls 5 [(0, .ref (O 0))] → W p l e { frames := 3, cells := 0, slots := 0, locals := 300 } s m args below meth c H locs 0 0 (MQ below (va_Qv (fun u9 => u9 = ms_la τ (m_la τ + m_bg τ)) (zB D (mT K) (mW O K) A) A) args s 0 0 A) (F0 m 16 ls []) := by
  obtain ⟨hx, hb, hml, hown, hts⟩ := id XX
  have inW : ∀ w ∈ wsX20, w ∈ wsX2_go := fun w h => List.mem_cons_of_mem _ (List.mem_append_right _ h)
  have k96 := hts (.fieldLink RX2 96 "MailRoomModel" "top" "I") (List.mem_of_getElem? (i := 1) rfl)
  have k62 := hts (.fieldLink RX2 62 "MailRoomModel" "stage" "[I") (List.mem_of_getElem? (i := 3) rfl)
  have k59 := hts (.fieldLink RX2 59 "MailRoomModel" "which" "[I") (List.mem_of_getElem? (i := 4) rfl)
  have k65 := hts (.fieldLink RX2 65 "MailRoomModel" "value" "[J") (List.mem_of_getElem? (i := 5) rfl)
  have k112 := hts (.fieldLink RX2 112 "MailRoomModel" "latest" "I") (List.mem_of_getElem? (i := 6) rfl)
  have k99 := hts (.fieldLink RX2 99 "MailRoomModel" "begun" "I") (List.mem_of_getElem? (i := 2) rfl)
  intro σ hR
  refine hR (fun σ => ∀ (H : Heap) (locs : List Loc) (ls : Array Slot), va_P D vwCl (mW O K σ) H → va_D A (mW O K σ) → va_S A s.heap H locs → lv_has ls 5 [(0, .ref (O 0))] → W p l e { frames := 3, cells := 0, slots := 0, locals := 300 } s m args below meth c H locs 0 0 (MQ below (va_Qv (fun u9 => u9 = ms_la τ (m_la τ + m_bg τ)) (zB D (mT K) (mW O K) A) A) args s 0 0 A) (F0 m 16 ls [])) ?_ ?_
  · intro σ hL kk H locs ls hP hD hS hl
    obtain ⟨hc, h1, h2, h4, h5, h0, h3, h6, h8, h11, h10⟩ := hL
    refine lv_aload_n hx hb dX2_go_16 rfl (lv_at hl 0 rfl) ?_
    refine m_gi_tp (v := (m_tp σ)) hx hb hts inW hown hK hP (rfl) k96 dX2_go_17 ?_
    refine lv_if_le (tgt := 87) hx hb dX2_go_20 (by decide) (fun c20 => ?_) (fun c20 => ?_)
    · exact absurd c20 hc
    · refine lv_aload_n hx hb dX2_go_23 rfl (lv_at hl 0 rfl) ?_
      refine m_gi_tp (v := (m_tp σ)) hx hb hts inW hown hK hP (rfl) k96 dX2_go_24 ?_
      refine lv_iconst (v := 1) hx hb dX2_go_27 (by decide) ?_
      refine lv_isub hx hb dX2_go_28 ?_
      refine lv_istore (lv' := [(4, .int ((m_tp σ) - 1)), (0, .ref (O 0))]) hx hb dX2_go_29 hl (by decide) rfl (fun ls hl => ?_)
      refine lv_aload_n hx hb dX2_go_31 rfl (lv_at hl 1 rfl) ?_
      refine m_ga_18 hx hb hts inW hown hK hP k62 dX2_go_32 ?_
      refine lv_iload hx hb dX2_go_35 (lv_at hl 0 rfl) ?_
      refine m_ld_sg (f := (m_sg σ)) (i := ((m_tp σ) - 1)) hx hb hK hP (rfl) (h2) dX2_go_37 ?_
      refine lv_if_ne (tgt := 64) hx hb dX2_go_38 (by decide) (fun c38 => ?_) (fun c38 => ?_)
      · refine lv_aload_n hx hb dX2_go_64 rfl (lv_at hl 1 rfl) ?_
        refine lv_iload hx hb dX2_go_65 (lv_at hl 0 rfl) ?_
        refine lv_aload_n hx hb dX2_go_67 rfl (lv_at hl 1 rfl) ?_
        refine m_ga_17 hx hb hts inW hown hK hP k59 dX2_go_68 ?_
        refine lv_iload hx hb dX2_go_71 (lv_at hl 0 rfl) ?_
        refine m_ld_wh (f := (m_wh σ)) (i := ((m_tp σ) - 1)) hx hb hK hP (rfl) (h2) dX2_go_73 ?_
        refine lv_aload_n hx hb dX2_go_74 rfl (lv_at hl 1 rfl) ?_
        refine m_ga_19 hx hb hts inW hown hK hP k65 dX2_go_75 ?_
        refine lv_iload hx hb dX2_go_78 (lv_at hl 0 rfl) ?_
        refine m_ld_va (f := (m_va σ)) (i := ((m_tp σ) - 1)) hx hb hK hP (rfl) (h2) dX2_go_80 ?_
        refine z_callv (As := [.int ((m_tp σ) - 1), .int ((m_wh σ) ((m_tp σ) - 1).toNatClampNeg), .long ((m_va σ) ((m_tp σ) - 1).toNatClampNeg)]) (rest := []) XX (cMM_behind l D O K ((m_tp σ) - 1) ((m_wh σ) ((m_tp σ) - 1).toNatClampNeg) ((m_va σ) ((m_tp σ) - 1).toNatClampNeg) σ (h1) (h2) (h4) (h10)) (cwV 3 hts gX2_go_X2_behind rfl rfl rfl qX2_behind ⟨by decide, by decide⟩) (va_recv hK hP (ci := 2) (q0 := 0) rfl rfl) hK hP hD hS hA rfl hl.1 rfl (Nat.le_of_ble_eq_true rfl) dX2_go_81 ⟨Nat.zero_le _, Nat.zero_le _⟩ (fun H locs hP hD hS => ?_)
        refine lv_goto (tgt := 16) hx hb dX2_go_84 (by decide) ?_
        have e9 : mStep σ = (mf_behind ((m_tp σ) - 1) ((m_wh σ) ((m_tp σ) - 1).toNatClampNeg) ((m_va σ) ((m_tp σ) - 1).toNatClampNeg) σ) := (if_neg c38).trans rfl
        rw [e9] at kk
        exact kk H locs ls hP hD hS (lv_sub hl [1] rfl)
      · refine lv_aload_n hx hb dX2_go_41 rfl (lv_at hl 1 rfl) ?_
        refine lv_iload hx hb dX2_go_42 (lv_at hl 0 rfl) ?_
        refine lv_aload_n hx hb dX2_go_44 rfl (lv_at hl 1 rfl) ?_
        refine m_ga_17 hx hb hts inW hown hK hP k59 dX2_go_45 ?_
        refine lv_iload hx hb dX2_go_48 (lv_at hl 0 rfl) ?_
        refine m_ld_wh (f := (m_wh σ)) (i := ((m_tp σ) - 1)) hx hb hK hP (rfl) (h2) dX2_go_50 ?_
        refine lv_aload_n hx hb dX2_go_51 rfl (lv_at hl 1 rfl) ?_
        refine m_ga_19 hx hb hts inW hown hK hP k65 dX2_go_52 ?_
        refine lv_iload hx hb dX2_go_55 (lv_at hl 0 rfl) ?_
        refine m_ld_va (f := (m_va σ)) (i := ((m_tp σ) - 1)) hx hb hK hP (rfl) (h2) dX2_go_57 ?_
        refine z_callv (As := [.int ((m_tp σ) - 1), .int ((m_wh σ) ((m_tp σ) - 1).toNatClampNeg), .long ((m_va σ) ((m_tp σ) - 1).toNatClampNeg)]) (rest := []) XX (cMM_begins l D O K ((m_tp σ) - 1) ((m_wh σ) ((m_tp σ) - 1).toNatClampNeg) ((m_va σ) ((m_tp σ) - 1).toNatClampNeg) σ (h1) (h2) (h4) (h5) (h0) (h3) (h6) (h8) (h11)) (cwV 3 hts gX2_go_X2_begins rfl rfl rfl qX2_begins ⟨by decide, by decide⟩) (va_recv hK hP (ci := 2) (q0 := 0) rfl rfl) hK hP hD hS hA rfl hl.1 rfl (Nat.le_of_ble_eq_true rfl) dX2_go_58 ⟨Nat.zero_le _, Nat.zero_le _⟩ (fun H locs hP hD hS => ?_)
        refine lv_goto (tgt := 84) hx hb dX2_go_61 (by decide) ?_
        refine lv_goto (tgt := 16) hx hb dX2_go_84 (by decide) ?_
        have e9 : mStep σ = (mf_begins ((m_tp σ) - 1) ((m_wh σ) ((m_tp σ) - 1).toNatClampNeg) ((m_va σ) ((m_tp σ) - 1).toNatClampNeg) σ) := (if_pos c38).trans rfl
        rw [e9] at kk
        exact kk H locs ls hP hD hS (lv_sub hl [1] rfl)
  · intro H locs ls hP hD hS hl
    refine lv_aload_n hx hb dX2_go_16 rfl (lv_at hl 0 rfl) ?_
    refine m_gi_tp (v := (m_tp τ)) hx hb hts inW hown hK hP (rfl) k96 dX2_go_17 ?_
    refine lv_if_le (tgt := 87) hx hb dX2_go_20 (by decide) (fun c20 => ?_) (fun c20 => ?_)
    · refine lv_aload_n hx hb dX2_go_87 rfl (lv_at hl 0 rfl) ?_
      refine lv_dup hx hb dX2_go_88 rfl ?_
      refine m_gi_la (v := (m_la τ)) hx hb hts inW hown hK hP (rfl) k112 dX2_go_89 ?_
      refine lv_aload_n hx hb dX2_go_92 rfl (lv_at hl 0 rfl) ?_
      refine m_gi_bg (v := (m_bg τ)) hx hb hts inW hown hK hP (rfl) k99 dX2_go_93 ?_
      refine lv_iadd hx hb dX2_go_96 ?_
      refine m_pi_la hx hb hts inW hown hK hP hD hS k112 dX2_go_97 (fun H locs hP hD hS => ?_)
      exact z_retv hx hb hr hlocks hK hP hD hS (rfl) dX2_go_100
    · exact absurd ht c20
set_option maxRecDepth 100000 in
set_option maxHeartbeats 4000000 in
theorem cMM_go (l : Launch) (D : va_G) (O : Nat → Nat) (K : Nat → ClassId) (h : Int32) (v : Int64) (σ : SM) (τ : SM) (hR : mReach (mf_call h v (ms_bg (ms_tp σ 0) 0)) τ) (ht : m_tp τ ≤ 0) : cV l yX2_go wsX2_go { frames := 3, cells := 0, slots := 0, locals := 300 } 0 0 D (mT K) (mW O K) σ [.ref (O 0), .int h, .long v] (ms_la τ (m_la τ + m_bg τ)) := by
  intro sz
  refine z_start (cc := cX2_go) (maxL := 5) (ret := none) (Qc := fun A => va_Qv (fun u9 => u9 = (ms_la τ (m_la τ + m_bg τ))) (zB D (mT K) (mW O K) A) A) sz (by decide) rfl (Nat.le_of_ble_eq_true rfl) ?_
  intro p e s m below meth c A X hA hK hP hD hS ls hl
  obtain ⟨hx, hb, hr, hml, hts, hown, hlocks, hnm⟩ := X
  have hown : s.vm.findClass RX2 = some m.cls := hown
  have hl : lv_has ls 5 [(0, .ref (O 0)), (1, .int h), (2, .long v)] := hl
  have inW : ∀ w ∈ wsX20, w ∈ wsX2_go := fun w h => List.mem_cons_of_mem _ (List.mem_append_right _ h)
  have XX : CallFix p m c cX2_go 5 s _ wsX2_go RX2 := ⟨hx, hb, hml, hown, hts⟩
  have k96 := hts (.fieldLink RX2 96 "MailRoomModel" "top" "I") (List.mem_of_getElem? (i := 1) rfl)
  have k99 := hts (.fieldLink RX2 99 "MailRoomModel" "begun" "I") (List.mem_of_getElem? (i := 2) rfl)
  refine lv_aload_n hx hb dX2_go_0 rfl (lv_at hl 0 rfl) ?_
  refine lv_iconst (v := 0) hx hb dX2_go_1 (by decide) ?_
  refine m_pi_tp hx hb hts inW hown hK hP hD hS k96 dX2_go_2 (fun H locs hP hD hS => ?_)
  refine lv_aload_n hx hb dX2_go_5 rfl (lv_at hl 0 rfl) ?_
  refine lv_iconst (v := 0) hx hb dX2_go_6 (by decide) ?_
  refine m_pi_bg hx hb hts inW hown hK hP hD hS k99 dX2_go_7 (fun H locs hP hD hS => ?_)
  refine lv_aload_n hx hb dX2_go_10 rfl (lv_at hl 0 rfl) ?_
  refine lv_iload_n hx hb dX2_go_11 rfl (lv_at hl 1 rfl) ?_
  refine lv_lload_n hx hb dX2_go_12 rfl (lv_at hl 2 rfl) ?_
  refine z_callv (As := [.int h, .long v]) (rest := []) XX (cMM_call l D O K h v (ms_bg (ms_tp σ 0) 0) (by rw [mr_tp_bg, mw_tp]; exact fun _ => z_v08)) (cwV 2 hts gX2_go_X2_call rfl rfl rfl qX2_call ⟨by decide, by decide⟩) (va_recv hK hP (ci := 2) (q0 := 0) rfl rfl) hK hP hD hS hA rfl hl.1 rfl (Nat.le_of_ble_eq_true rfl) dX2_go_13 ⟨Nat.zero_le _, Nat.zero_le _⟩ (fun H locs hP hD hS => ?_)
  exact cMM_goL XX hr hlocks hA hK τ ht _ hR H locs ls hP hD hS (lv_sub hl [0] rfl)
