noncomputable def mf_comes  (k : Int32) (v : Int64) (σ : SM) : SM := ms_sz (ms_qv (ms_qk σ (upd (m_qk σ) ((m_sz σ).toNatClampNeg) k)) (vp_updL (m_qv σ) ((m_sz σ).toNatClampNeg) v)) ((m_sz σ) + 1)
set_option maxRecDepth 100000 in
set_option maxHeartbeats 4000000 in
theorem cMM_comes (l : Launch) (D : va_G) (O : Nat → Nat) (K : Nat → ClassId) (k : Int32) (v : Int64) (σ : SM) (h1 : vp_in (m_sz σ) 40) : cV l yX2_comes wsX2_comes { frames := 0, cells := 0, slots := 0, locals := 0 } 0 0 D (mT K) (mW O K) σ [.ref (O 0), .int k, .long v] (mf_comes k v σ) := by
  intro sz
  refine z_start (cc := cX2_comes) (maxL := 4) (ret := none) (Qc := fun A => va_Qv (fun u9 => u9 = (mf_comes k v σ)) (zB D (mT K) (mW O K) A) A) sz (by decide) rfl (Nat.le_of_ble_eq_true rfl) ?_
  intro p e s m below meth c A X hA hK hP hD hS ls hl
  obtain ⟨hx, hb, hr, hml, hts, hown, hlocks, hnm⟩ := X
  have hown : s.vm.findClass RX2 = some m.cls := hown
  have hl : lv_has ls 4 [(0, .ref (O 0)), (1, .int k), (2, .long v)] := hl
  have inW : ∀ w ∈ wsX20, w ∈ wsX2_comes := fun w h => List.mem_cons_of_mem _ (List.mem_append_right _ h)
  have XX : CallFix p m c cX2_comes 4 s _ wsX2_comes RX2 := ⟨hx, hb, hml, hown, hts⟩
  have k44 := hts (.fieldLink RX2 44 "MailRoomModel" "queueKinds" "[I") (List.mem_of_getElem? (i := 1) rfl)
  have k86 := hts (.fieldLink RX2 86 "MailRoomModel" "size" "I") (List.mem_of_getElem? (i := 2) rfl)
  have k47 := hts (.fieldLink RX2 47 "MailRoomModel" "queueValues" "[J") (List.mem_of_getElem? (i := 3) rfl)
  refine lv_aload_n hx hb dX2_comes_0 rfl (lv_at hl 0 rfl) ?_
  refine m_ga_12 hx hb hts inW hown hK hP k44 dX2_comes_1 ?_
  refine lv_aload_n hx hb dX2_comes_4 rfl (lv_at hl 0 rfl) ?_
  refine m_gi_sz (v := (m_sz σ)) hx hb hts inW hown hK hP (rfl) k86 dX2_comes_5 ?_
  refine lv_iload_n hx hb dX2_comes_8 rfl (lv_at hl 1 rfl) ?_
  refine m_st_qk (f := (m_qk σ)) (i := (m_sz σ)) hx hb hK hP hD hS (rfl) (h1) dX2_comes_9 (fun H locs hP hD hS => ?_)
  refine lv_aload_n hx hb dX2_comes_10 rfl (lv_at hl 0 rfl) ?_
  refine m_ga_13 hx hb hts inW hown hK hP k47 dX2_comes_11 ?_
  refine lv_aload_n hx hb dX2_comes_14 rfl (lv_at hl 0 rfl) ?_
  refine m_gi_sz (v := (m_sz σ)) hx hb hts inW hown hK hP (mr_sz_qk _ _) k86 dX2_comes_15 ?_
  refine lv_lload_n hx hb dX2_comes_18 rfl (lv_at hl 2 rfl) ?_
  refine m_st_qv (f := (m_qv σ)) (i := (m_sz σ)) hx hb hK hP hD hS (mr_qv_qk _ _) (h1) dX2_comes_19 (fun H locs hP hD hS => ?_)
  refine lv_aload_n hx hb dX2_comes_20 rfl (lv_at hl 0 rfl) ?_
  refine lv_dup hx hb dX2_comes_21 rfl ?_
  refine m_gi_sz (v := (m_sz σ)) hx hb hts inW hown hK hP ((mr_sz_qv _ _).trans (mr_sz_qk _ _)) k86 dX2_comes_22 ?_
  refine lv_iconst (v := 1) hx hb dX2_comes_25 (by decide) ?_
  refine lv_iadd hx hb dX2_comes_26 ?_
  refine m_pi_sz hx hb hts inW hown hK hP hD hS k86 dX2_comes_27 (fun H locs hP hD hS => ?_)
  exact z_retv hx hb hr hlocks hK hP hD hS (rfl) dX2_comes_30
noncomputable def mf_keep  (b : Int32) (v : Int64) (σ : SM) : SM := ms_co (ms_su σ (vp_updL (m_su σ) b.toNatClampNeg (((m_su σ) b.toNatClampNeg) + v))) (upd (m_co σ) b.toNatClampNeg (((m_co σ) b.toNatClampNeg) + 1))
set_option maxRecDepth 100000 in
set_option maxHeartbeats 4000000 in
theorem cMM_keep (l : Launch) (D : va_G) (O : Nat → Nat) (K : Nat → ClassId) (b : Int32) (v : Int64) (σ : SM) (h1 : vp_in b 6) : cV l yX2_keep wsX2_keep { frames := 0, cells := 0, slots := 0, locals := 0 } 0 0 D (mT K) (mW O K) σ [.ref (O 0), .int b, .long v] (mf_keep b v σ) := by
  intro sz
  refine z_start (cc := cX2_keep) (maxL := 4) (ret := none) (Qc := fun A => va_Qv (fun u9 => u9 = (mf_keep b v σ)) (zB D (mT K) (mW O K) A) A) sz (by decide) rfl (Nat.le_of_ble_eq_true rfl) ?_
  intro p e s m below meth c A X hA hK hP hD hS ls hl
  obtain ⟨hx, hb, hr, hml, hts, hown, hlocks, hnm⟩ := X
  have hown : s.vm.findClass RX2 = some m.cls := hown
  have hl : lv_has ls 4 [(0, .ref (O 0)), (1, .int b), (2, .long v)] := hl
  have inW : ∀ w ∈ wsX20, w ∈ wsX2_keep := fun w h => List.mem_cons_of_mem _ (List.mem_append_right _ h)
  have XX : CallFix p m c cX2_keep 4 s _ wsX2_keep RX2 := ⟨hx, hb, hml, hown, hts⟩
  have k7 := hts (.fieldLink RX2 7 "MailRoomModel" "sums" "[J") (List.mem_of_getElem? (i := 1) rfl)
  have k13 := hts (.fieldLink RX2 13 "MailRoomModel" "counts" "[I") (List.mem_of_getElem? (i := 2) rfl)
  refine lv_aload_n hx hb dX2_keep_0 rfl (lv_at hl 0 rfl) ?_
  refine m_ga_1 hx hb hts inW hown hK hP k7 dX2_keep_1 ?_
  refine lv_iload_n hx hb dX2_keep_4 rfl (lv_at hl 1 rfl) ?_
  refine lv_dup2_11 hx hb dX2_keep_5 rfl rfl ?_
  refine m_ld_su (f := (m_su σ)) (i := b) hx hb hK hP (rfl) (h1) dX2_keep_6 ?_
  refine lv_lload_n hx hb dX2_keep_7 rfl (lv_at hl 2 rfl) ?_
  refine lv_ladd hx hb dX2_keep_8 ?_
  refine m_st_su (f := (m_su σ)) (i := b) hx hb hK hP hD hS (rfl) (h1) dX2_keep_9 (fun H locs hP hD hS => ?_)
  refine lv_aload_n hx hb dX2_keep_10 rfl (lv_at hl 0 rfl) ?_
  refine m_ga_2 hx hb hts inW hown hK hP k13 dX2_keep_11 ?_
  refine lv_iload_n hx hb dX2_keep_14 rfl (lv_at hl 1 rfl) ?_
  refine lv_dup2_11 hx hb dX2_keep_15 rfl rfl ?_
  refine m_ld_co (f := (m_co σ)) (i := b) hx hb hK hP (mr_co_su _ _) (h1) dX2_keep_16 ?_
  refine lv_iconst (v := 1) hx hb dX2_keep_17 (by decide) ?_
  refine lv_iadd hx hb dX2_keep_18 ?_
  refine m_st_co (f := (m_co σ)) (i := b) hx hb hK hP hD hS (mr_co_su _ _) (h1) dX2_keep_19 (fun H locs hP hD hS => ?_)
  exact z_retv hx hb hr hlocks hK hP hD hS (rfl) dX2_keep_20
noncomputable def mf_post  (k : Int32) (v : Int64) (σ : SM) : Int32 × SM := if (mf_isKind k) = 0 then ((-2), σ) else (if (m_sz σ) = 40 then ((-4), σ) else ((m_sz (mf_comes k v σ)), (mf_comes k v σ)))
set_option maxRecDepth 100000 in
set_option maxHeartbeats 4000000 in
theorem cMM_post (l : Launch) (D : va_G) (O : Nat → Nat) (K : Nat → ClassId) (k : Int32) (v : Int64) (σ : SM) (h1 : ¬ m_sz σ = 40 → vp_in (m_sz σ) 40) : cI l yX2_post wsX2_post { frames := 2, cells := 0, slots := 0, locals := 200 } 0 0 D (mT K) (mW O K) σ [.ref (O 0), .int k, .long v] (mf_post k v σ) := by
  intro sz
  refine z_start (cc := cX2_post) (maxL := 4) (ret := (some .int)) (Qc := fun A => va_Qi (fun r9 u9 => r9 = (mf_post k v σ).1 ∧ u9 = (mf_post k v σ).2) (zB D (mT K) (mW O K) A) A) sz (by decide) rfl (Nat.le_of_ble_eq_true rfl) ?_
  intro p e s m below meth c A X hA hK hP hD hS ls hl
  obtain ⟨hx, hb, hr, hml, hts, hown, hlocks, hnm⟩ := X
  have hown : s.vm.findClass RX2 = some m.cls := hown
  have hl : lv_has ls 4 [(0, .ref (O 0)), (1, .int k), (2, .long v)] := hl
  have inW : ∀ w ∈ wsX20, w ∈ wsX2_post := fun w h => List.mem_cons_of_mem _ (List.mem_append_right _ h)
  have XX : CallFix p m c cX2_post 4 s _ wsX2_post RX2 := ⟨hx, hb, hml, hown, hts⟩
  have k86 := hts (.fieldLink RX2 86 "MailRoomModel" "size" "I") (List.mem_of_getElem? (i := 1) rfl)
  refine lv_iload_n hx hb dX2_post_0 rfl (lv_at hl 1 rfl) ?_
  refine z_calls (As := [.int k]) (rest := []) XX (cMM_isKind l k) (va_cwS 1 hts gX2_post_X2_isKind rfl rfl rfl qX2_isKind ⟨by decide, by decide⟩) rfl hl.1 rfl (Nat.le_of_ble_eq_true rfl) dX2_post_1 ⟨Nat.zero_le _, Nat.zero_le _⟩ ?_
  refine lv_if_ne (tgt := 10) hx hb dX2_post_4 (by decide) (fun c4 => ?_) (fun c4 => ?_)
  · refine lv_aload_n hx hb dX2_post_10 rfl (lv_at hl 0 rfl) ?_
    refine m_gi_sz (v := (m_sz σ)) hx hb hts inW hown hK hP (rfl) k86 dX2_post_11 ?_
    refine lv_bipush (v := 40) hx hb dX2_post_14 (by decide) ?_
    refine lv_icmp_ne (tgt := 22) hx hb dX2_post_16 (by decide) (fun c16 => ?_) (fun c16 => ?_)
    · refine lv_aload_n hx hb dX2_post_22 rfl (lv_at hl 0 rfl) ?_
      refine lv_iload_n hx hb dX2_post_23 rfl (lv_at hl 1 rfl) ?_
      refine lv_lload_n hx hb dX2_post_24 rfl (lv_at hl 2 rfl) ?_
      refine z_callv (As := [.int k, .long v]) (rest := []) XX (cMM_comes l D O K k v σ (h1 c16)) (cwV 2 hts gX2_post_X2_comes rfl rfl rfl qX2_comes ⟨by decide, by decide⟩) (va_recv hK hP (ci := 2) (q0 := 0) rfl rfl) hK hP hD hS hA rfl hl.1 rfl (Nat.le_of_ble_eq_true rfl) dX2_post_25 ⟨Nat.zero_le _, Nat.zero_le _⟩ (fun H locs hP hD hS => ?_)
      refine lv_aload_n hx hb dX2_post_28 rfl (lv_at hl 0 rfl) ?_
      refine m_gi_sz (v := (m_sz (mf_comes k v σ))) hx hb hts inW hown hK hP (rfl) k86 dX2_post_29 ?_
      exact z_reti hx hb hr hlocks rfl hK hP hD hS ((if_neg c4).trans ((if_neg c16).trans (rfl))) dX2_post_32
    · refine lv_bipush (v := (-4)) hx hb dX2_post_19 (by decide) ?_
      exact z_reti hx hb hr hlocks rfl hK hP hD hS ((if_neg c4).trans ((if_pos c16).trans (rfl))) dX2_post_21
  · refine lv_bipush (v := (-2)) hx hb dX2_post_7 (by decide) ?_
    exact z_reti hx hb hr hlocks rfl hK hP hD hS ((if_pos c4).trans (rfl)) dX2_post_9
noncomputable def mf_call  (h : Int32) (v : Int64) (σ : SM) : SM := if (m_tp σ) = 8 then (ms_fa (ms_fa σ 0) 6) else (if (m_bg σ) = 16 then (ms_fa (ms_fa σ 0) 6) else (if 0 ≤ h then (ms_tp (ms_va (ms_sg (ms_wh (ms_bg (ms_fa σ 0) ((m_bg σ) + 1)) (upd (m_wh σ) ((m_tp σ).toNatClampNeg) h)) (upd (m_sg σ) ((m_tp σ).toNatClampNeg) 0)) (vp_updL (m_va σ) ((m_tp σ).toNatClampNeg) v)) ((m_tp σ) + 1)) else (ms_fa (ms_bg (ms_fa σ 0) ((m_bg σ) + 1)) 1)))
set_option maxRecDepth 100000 in
set_option maxHeartbeats 4000000 in
theorem cMM_call (l : Launch) (D : va_G) (O : Nat → Nat) (K : Nat → ClassId) (h : Int32) (v : Int64) (σ : SM) (h1 : ¬ m_tp σ = 8 → vp_in (m_tp σ) 8) : cV l yX2_call wsX2_call { frames := 0, cells := 0, slots := 0, locals := 0 } 0 0 D (mT K) (mW O K) σ [.ref (O 0), .int h, .long v] (mf_call h v σ) := by
  intro sz
  refine z_start (cc := cX2_call) (maxL := 4) (ret := none) (Qc := fun A => va_Qv (fun u9 => u9 = (mf_call h v σ)) (zB D (mT K) (mW O K) A) A) sz (by decide) rfl (Nat.le_of_ble_eq_true rfl) ?_
  intro p e s m below meth c A X hA hK hP hD hS ls hl
  obtain ⟨hx, hb, hr, hml, hts, hown, hlocks, hnm⟩ := X
  have hown : s.vm.findClass RX2 = some m.cls := hown
  have hl : lv_has ls 4 [(0, .ref (O 0)), (1, .int h), (2, .long v)] := hl
  have inW : ∀ w ∈ wsX20, w ∈ wsX2_call := fun w h => List.mem_cons_of_mem _ (List.mem_append_right _ h)
  have XX : CallFix p m c cX2_call 4 s _ wsX2_call RX2 := ⟨hx, hb, hml, hown, hts⟩
  have k93 := hts (.fieldLink RX2 93 "MailRoomModel" "failure" "I") (List.mem_of_getElem? (i := 1) rfl)
  have k96 := hts (.fieldLink RX2 96 "MailRoomModel" "top" "I") (List.mem_of_getElem? (i := 2) rfl)
  have k99 := hts (.fieldLink RX2 99 "MailRoomModel" "begun" "I") (List.mem_of_getElem? (i := 3) rfl)
  have k59 := hts (.fieldLink RX2 59 "MailRoomModel" "which" "[I") (List.mem_of_getElem? (i := 4) rfl)
  have k62 := hts (.fieldLink RX2 62 "MailRoomModel" "stage" "[I") (List.mem_of_getElem? (i := 5) rfl)
  have k65 := hts (.fieldLink RX2 65 "MailRoomModel" "value" "[J") (List.mem_of_getElem? (i := 6) rfl)
  refine lv_aload_n hx hb dX2_call_0 rfl (lv_at hl 0 rfl) ?_
  refine lv_iconst (v := 0) hx hb dX2_call_1 (by decide) ?_
  refine m_pi_fa hx hb hts inW hown hK hP hD hS k93 dX2_call_2 (fun H locs hP hD hS => ?_)
  refine lv_aload_n hx hb dX2_call_5 rfl (lv_at hl 0 rfl) ?_
  refine m_gi_tp (v := (m_tp σ)) hx hb hts inW hown hK hP (mr_tp_fa _ _) k96 dX2_call_6 ?_
  refine lv_bipush (v := 8) hx hb dX2_call_9 (by decide) ?_
  refine lv_icmp_eq (tgt := 23) hx hb dX2_call_11 (by decide) (fun c11 => ?_) (fun c11 => ?_)
  · refine lv_aload_n hx hb dX2_call_23 rfl (lv_at hl 0 rfl) ?_
    refine lv_bipush (v := 6) hx hb dX2_call_24 (by decide) ?_
    refine m_pi_fa hx hb hts inW hown hK hP hD hS k93 dX2_call_26 (fun H locs hP hD hS => ?_)
    exact z_retv hx hb hr hlocks hK hP hD hS ((if_pos c11).trans (rfl)) dX2_call_29
  · refine lv_aload_n hx hb dX2_call_14 rfl (lv_at hl 0 rfl) ?_
    refine m_gi_bg (v := (m_bg σ)) hx hb hts inW hown hK hP (mr_bg_fa _ _) k99 dX2_call_15 ?_
    refine lv_bipush (v := 16) hx hb dX2_call_18 (by decide) ?_
    refine lv_icmp_ne (tgt := 30) hx hb dX2_call_20 (by decide) (fun c20 => ?_) (fun c20 => ?_)
    · refine lv_aload_n hx hb dX2_call_30 rfl (lv_at hl 0 rfl) ?_
      refine lv_dup hx hb dX2_call_31 rfl ?_
      refine m_gi_bg (v := (m_bg σ)) hx hb hts inW hown hK hP (mr_bg_fa _ _) k99 dX2_call_32 ?_
      refine lv_iconst (v := 1) hx hb dX2_call_35 (by decide) ?_
      refine lv_iadd hx hb dX2_call_36 ?_
      refine m_pi_bg hx hb hts inW hown hK hP hD hS k99 dX2_call_37 (fun H locs hP hD hS => ?_)
      refine lv_iload_n hx hb dX2_call_40 rfl (lv_at hl 1 rfl) ?_
      refine lv_if_ge (tgt := 50) hx hb dX2_call_41 (by decide) (fun c41 => ?_) (fun c41 => ?_)
      · refine lv_aload_n hx hb dX2_call_50 rfl (lv_at hl 0 rfl) ?_
        refine m_ga_17 hx hb hts inW hown hK hP k59 dX2_call_51 ?_
        refine lv_aload_n hx hb dX2_call_54 rfl (lv_at hl 0 rfl) ?_
        refine m_gi_tp (v := (m_tp σ)) hx hb hts inW hown hK hP ((mr_tp_bg _ _).trans (mr_tp_fa _ _)) k96 dX2_call_55 ?_
        refine lv_iload_n hx hb dX2_call_58 rfl (lv_at hl 1 rfl) ?_
        refine m_st_wh (f := (m_wh σ)) (i := (m_tp σ)) hx hb hK hP hD hS ((mr_wh_bg _ _).trans (mr_wh_fa _ _)) (h1 c11) dX2_call_59 (fun H locs hP hD hS => ?_)
        refine lv_aload_n hx hb dX2_call_60 rfl (lv_at hl 0 rfl) ?_
        refine m_ga_18 hx hb hts inW hown hK hP k62 dX2_call_61 ?_
        refine lv_aload_n hx hb dX2_call_64 rfl (lv_at hl 0 rfl) ?_
        refine m_gi_tp (v := (m_tp σ)) hx hb hts inW hown hK hP ((mr_tp_wh _ _).trans ((mr_tp_bg _ _).trans (mr_tp_fa _ _))) k96 dX2_call_65 ?_
        refine lv_iconst (v := 0) hx hb dX2_call_68 (by decide) ?_
        refine m_st_sg (f := (m_sg σ)) (i := (m_tp σ)) hx hb hK hP hD hS ((mr_sg_wh _ _).trans ((mr_sg_bg _ _).trans (mr_sg_fa _ _))) (h1 c11) dX2_call_69 (fun H locs hP hD hS => ?_)
        refine lv_aload_n hx hb dX2_call_70 rfl (lv_at hl 0 rfl) ?_
        refine m_ga_19 hx hb hts inW hown hK hP k65 dX2_call_71 ?_
        refine lv_aload_n hx hb dX2_call_74 rfl (lv_at hl 0 rfl) ?_
        refine m_gi_tp (v := (m_tp σ)) hx hb hts inW hown hK hP ((mr_tp_sg _ _).trans ((mr_tp_wh _ _).trans ((mr_tp_bg _ _).trans (mr_tp_fa _ _)))) k96 dX2_call_75 ?_
        refine lv_lload_n hx hb dX2_call_78 rfl (lv_at hl 2 rfl) ?_
        refine m_st_va (f := (m_va σ)) (i := (m_tp σ)) hx hb hK hP hD hS ((mr_va_sg _ _).trans ((mr_va_wh _ _).trans ((mr_va_bg _ _).trans (mr_va_fa _ _)))) (h1 c11) dX2_call_79 (fun H locs hP hD hS => ?_)
        refine lv_aload_n hx hb dX2_call_80 rfl (lv_at hl 0 rfl) ?_
        refine lv_dup hx hb dX2_call_81 rfl ?_
        refine m_gi_tp (v := (m_tp σ)) hx hb hts inW hown hK hP ((mr_tp_va _ _).trans ((mr_tp_sg _ _).trans ((mr_tp_wh _ _).trans ((mr_tp_bg _ _).trans (mr_tp_fa _ _))))) k96 dX2_call_82 ?_
        refine lv_iconst (v := 1) hx hb dX2_call_85 (by decide) ?_
        refine lv_iadd hx hb dX2_call_86 ?_
        refine m_pi_tp hx hb hts inW hown hK hP hD hS k96 dX2_call_87 (fun H locs hP hD hS => ?_)
        exact z_retv hx hb hr hlocks hK hP hD hS ((if_neg c11).trans ((if_neg c20).trans ((if_pos c41).trans (rfl)))) dX2_call_90
      · refine lv_aload_n hx hb dX2_call_44 rfl (lv_at hl 0 rfl) ?_
        refine lv_iconst (v := 1) hx hb dX2_call_45 (by decide) ?_
        refine m_pi_fa hx hb hts inW hown hK hP hD hS k93 dX2_call_46 (fun H locs hP hD hS => ?_)
        exact z_retv hx hb hr hlocks hK hP hD hS ((if_neg c11).trans ((if_neg c20).trans ((if_neg c41).trans (rfl)))) dX2_call_49
    · refine lv_aload_n hx hb dX2_call_23 rfl (lv_at hl 0 rfl) ?_
      refine lv_bipush (v := 6) hx hb dX2_call_24 (by decide) ?_
      refine m_pi_fa hx hb hts inW hown hK hP hD hS k93 dX2_call_26 (fun H locs hP hD hS => ?_)
      exact z_retv hx hb hr hlocks hK hP hD hS ((if_neg c11).trans ((if_pos c20).trans (rfl))) dX2_call_29
noncomputable def mf_ends  (f : Int32) (σ : SM) : SM := ms_fa (ms_tp σ ((m_tp σ) - 1)) f
set_option maxRecDepth 100000 in
set_option maxHeartbeats 4000000 in
theorem cMM_ends (l : Launch) (D : va_G) (O : Nat → Nat) (K : Nat → ClassId) (f : Int32) (σ : SM)  : cV l yX2_ends wsX2_ends { frames := 0, cells := 0, slots := 0, locals := 0 } 0 0 D (mT K) (mW O K) σ [.ref (O 0), .int f] (mf_ends f σ) := by
  intro sz
  refine z_start (cc := cX2_ends) (maxL := 2) (ret := none) (Qc := fun A => va_Qv (fun u9 => u9 = (mf_ends f σ)) (zB D (mT K) (mW O K) A) A) sz (by decide) rfl (Nat.le_of_ble_eq_true rfl) ?_
  intro p e s m below meth c A X hA hK hP hD hS ls hl
  obtain ⟨hx, hb, hr, hml, hts, hown, hlocks, hnm⟩ := X
  have hown : s.vm.findClass RX2 = some m.cls := hown
  have hl : lv_has ls 2 [(0, .ref (O 0)), (1, .int f)] := hl
  have inW : ∀ w ∈ wsX20, w ∈ wsX2_ends := fun w h => List.mem_cons_of_mem _ (List.mem_append_right _ h)
  have XX : CallFix p m c cX2_ends 2 s _ wsX2_ends RX2 := ⟨hx, hb, hml, hown, hts⟩
  have k96 := hts (.fieldLink RX2 96 "MailRoomModel" "top" "I") (List.mem_of_getElem? (i := 1) rfl)
  have k93 := hts (.fieldLink RX2 93 "MailRoomModel" "failure" "I") (List.mem_of_getElem? (i := 2) rfl)
  refine lv_aload_n hx hb dX2_ends_0 rfl (lv_at hl 0 rfl) ?_
  refine lv_dup hx hb dX2_ends_1 rfl ?_
  refine m_gi_tp (v := (m_tp σ)) hx hb hts inW hown hK hP (rfl) k96 dX2_ends_2 ?_
  refine lv_iconst (v := 1) hx hb dX2_ends_5 (by decide) ?_
  refine lv_isub hx hb dX2_ends_6 ?_
  refine m_pi_tp hx hb hts inW hown hK hP hD hS k96 dX2_ends_7 (fun H locs hP hD hS => ?_)
  refine lv_aload_n hx hb dX2_ends_10 rfl (lv_at hl 0 rfl) ?_
  refine lv_iload_n hx hb dX2_ends_11 rfl (lv_at hl 1 rfl) ?_
  refine m_pi_fa hx hb hts inW hown hK hP hD hS k93 dX2_ends_12 (fun H locs hP hD hS => ?_)
  exact z_retv hx hb hr hlocks hK hP hD hS (rfl) dX2_ends_15
noncomputable def mf_goOn  (ix : Int32) (h : Int32) (v : Int64) (σ : SM) : SM := (mf_call h v (ms_sg σ (upd (m_sg σ) ix.toNatClampNeg (((m_sg σ) ix.toNatClampNeg) + 1))))
set_option maxRecDepth 100000 in
set_option maxHeartbeats 4000000 in
theorem cMM_goOn (l : Launch) (D : va_G) (O : Nat → Nat) (K : Nat → ClassId) (ix : Int32) (h : Int32) (v : Int64) (σ : SM) (h2 : vp_in ix 8) (h4 : ¬ m_tp σ = 8 → vp_in (m_tp σ) 8) : cV l yX2_goOn wsX2_goOn { frames := 1, cells := 0, slots := 0, locals := 100 } 0 0 D (mT K) (mW O K) σ [.ref (O 0), .int ix, .int h, .long v] (mf_goOn ix h v σ) := by
  intro sz
  refine z_start (cc := cX2_goOn) (maxL := 5) (ret := none) (Qc := fun A => va_Qv (fun u9 => u9 = (mf_goOn ix h v σ)) (zB D (mT K) (mW O K) A) A) sz (by decide) rfl (Nat.le_of_ble_eq_true rfl) ?_
  intro p e s m below meth c A X hA hK hP hD hS ls hl
  obtain ⟨hx, hb, hr, hml, hts, hown, hlocks, hnm⟩ := X
  have hown : s.vm.findClass RX2 = some m.cls := hown
  have hl : lv_has ls 5 [(0, .ref (O 0)), (1, .int ix), (2, .int h), (3, .long v)] := hl
  have inW : ∀ w ∈ wsX20, w ∈ wsX2_goOn := fun w h => List.mem_cons_of_mem _ (List.mem_append_right _ h)
  have XX : CallFix p m c cX2_goOn 5 s _ wsX2_goOn RX2 := ⟨hx, hb, hml, hown, hts⟩
  have k62 := hts (.fieldLink RX2 62 "MailRoomModel" "stage" "[I") (List.mem_of_getElem? (i := 1) rfl)
  refine lv_aload_n hx hb dX2_goOn_0 rfl (lv_at hl 0 rfl) ?_
  refine m_ga_18 hx hb hts inW hown hK hP k62 dX2_goOn_1 ?_
  refine lv_iload_n hx hb dX2_goOn_4 rfl (lv_at hl 1 rfl) ?_
  refine lv_dup2_11 hx hb dX2_goOn_5 rfl rfl ?_
  refine m_ld_sg (f := (m_sg σ)) (i := ix) hx hb hK hP (rfl) (h2) dX2_goOn_6 ?_
  refine lv_iconst (v := 1) hx hb dX2_goOn_7 (by decide) ?_
  refine lv_iadd hx hb dX2_goOn_8 ?_
  refine m_st_sg (f := (m_sg σ)) (i := ix) hx hb hK hP hD hS (rfl) (h2) dX2_goOn_9 (fun H locs hP hD hS => ?_)
  refine lv_aload_n hx hb dX2_goOn_10 rfl (lv_at hl 0 rfl) ?_
  refine lv_iload_n hx hb dX2_goOn_11 rfl (lv_at hl 2 rfl) ?_
  refine lv_lload_n hx hb dX2_goOn_12 rfl (lv_at hl 3 rfl) ?_
  refine z_callv (As := [.int h, .long v]) (rest := []) XX (cMM_call l D O K h v (ms_sg σ (upd (m_sg σ) ix.toNatClampNeg (((m_sg σ) ix.toNatClampNeg) + 1))) (by rw [mr_tp_sg]; exact h4)) (cwV 2 hts gX2_goOn_X2_call rfl rfl rfl qX2_call ⟨by decide, by decide⟩) (va_recv hK hP (ci := 2) (q0 := 0) rfl rfl) hK hP hD hS hA rfl hl.1 rfl (Nat.le_of_ble_eq_true rfl) dX2_goOn_13 ⟨Nat.zero_le _, Nat.zero_le _⟩ (fun H locs hP hD hS => ?_)
  exact z_retv hx hb hr hlocks hK hP hD hS (rfl) dX2_goOn_16
noncomputable def mf_sends  (k : Int32) (v : Int64) (σ : SM) : SM := if (m_sz σ) = 40 then (mf_ends 5 σ) else (mf_ends 0 (mf_comes k v σ))
set_option maxRecDepth 100000 in
set_option maxHeartbeats 4000000 in
theorem cMM_sends (l : Launch) (D : va_G) (O : Nat → Nat) (K : Nat → ClassId) (k : Int32) (v : Int64) (σ : SM) (h1 : ¬ m_sz σ = 40 → vp_in (m_sz σ) 40) : cV l yX2_sends wsX2_sends { frames := 1, cells := 0, slots := 0, locals := 100 } 0 0 D (mT K) (mW O K) σ [.ref (O 0), .int k, .long v] (mf_sends k v σ) := by
  intro sz
  refine z_start (cc := cX2_sends) (maxL := 4) (ret := none) (Qc := fun A => va_Qv (fun u9 => u9 = (mf_sends k v σ)) (zB D (mT K) (mW O K) A) A) sz (by decide) rfl (Nat.le_of_ble_eq_true rfl) ?_
  intro p e s m below meth c A X hA hK hP hD hS ls hl
  obtain ⟨hx, hb, hr, hml, hts, hown, hlocks, hnm⟩ := X
  have hown : s.vm.findClass RX2 = some m.cls := hown
  have hl : lv_has ls 4 [(0, .ref (O 0)), (1, .int k), (2, .long v)] := hl
  have inW : ∀ w ∈ wsX20, w ∈ wsX2_sends := fun w h => List.mem_cons_of_mem _ (List.mem_append_right _ h)
  have XX : CallFix p m c cX2_sends 4 s _ wsX2_sends RX2 := ⟨hx, hb, hml, hown, hts⟩
  have k86 := hts (.fieldLink RX2 86 "MailRoomModel" "size" "I") (List.mem_of_getElem? (i := 1) rfl)
  refine lv_aload_n hx hb dX2_sends_0 rfl (lv_at hl 0 rfl) ?_
  refine m_gi_sz (v := (m_sz σ)) hx hb hts inW hown hK hP (rfl) k86 dX2_sends_1 ?_
  refine lv_bipush (v := 40) hx hb dX2_sends_4 (by decide) ?_
  refine lv_icmp_ne (tgt := 17) hx hb dX2_sends_6 (by decide) (fun c6 => ?_) (fun c6 => ?_)
  · refine lv_aload_n hx hb dX2_sends_17 rfl (lv_at hl 0 rfl) ?_
    refine lv_iload_n hx hb dX2_sends_18 rfl (lv_at hl 1 rfl) ?_
    refine lv_lload_n hx hb dX2_sends_19 rfl (lv_at hl 2 rfl) ?_
    refine z_callv (As := [.int k, .long v]) (rest := []) XX (cMM_comes l D O K k v σ (h1 c6)) (cwV 2 hts gX2_sends_X2_comes rfl rfl rfl qX2_comes ⟨by decide, by decide⟩) (va_recv hK hP (ci := 2) (q0 := 0) rfl rfl) hK hP hD hS hA rfl hl.1 rfl (Nat.le_of_ble_eq_true rfl) dX2_sends_20 ⟨Nat.zero_le _, Nat.zero_le _⟩ (fun H locs hP hD hS => ?_)
    refine lv_aload_n hx hb dX2_sends_23 rfl (lv_at hl 0 rfl) ?_
    refine lv_iconst (v := 0) hx hb dX2_sends_24 (by decide) ?_
    refine z_callv (As := [.int 0]) (rest := []) XX (cMM_ends l D O K 0 (mf_comes k v σ)) (cwV 1 hts gX2_sends_X2_ends rfl rfl rfl qX2_ends ⟨by decide, by decide⟩) (va_recv hK hP (ci := 2) (q0 := 0) rfl rfl) hK hP hD hS hA rfl hl.1 rfl (Nat.le_of_ble_eq_true rfl) dX2_sends_25 ⟨Nat.zero_le _, Nat.zero_le _⟩ (fun H locs hP hD hS => ?_)
    exact z_retv hx hb hr hlocks hK hP hD hS ((if_neg c6).trans (rfl)) dX2_sends_28
  · refine lv_aload_n hx hb dX2_sends_9 rfl (lv_at hl 0 rfl) ?_
    refine lv_iconst (v := 5) hx hb dX2_sends_10 (by decide) ?_
    refine z_callv (As := [.int 5]) (rest := []) XX (cMM_ends l D O K 5 σ) (cwV 1 hts gX2_sends_X2_ends rfl rfl rfl qX2_ends ⟨by decide, by decide⟩) (va_recv hK hP (ci := 2) (q0 := 0) rfl rfl) hK hP hD hS hA rfl hl.1 rfl (Nat.le_of_ble_eq_true rfl) dX2_sends_11 ⟨Nat.zero_le _, Nat.zero_le _⟩ (fun H locs hP hD hS => ?_)
    refine lv_goto (tgt := 28) hx hb dX2_sends_14 (by decide) ?_
    exact z_retv hx hb hr hlocks hK hP hD hS ((if_pos c6).trans (rfl)) dX2_sends_28
noncomputable def mf_shares  (a : Int32) (b : Int32) (v : Int64) (w : Int64) (σ : SM) : SM := if (lg_cmp w 0) = 0 then (mf_ends 2 σ) else (mf_ends 0 (mf_keep b (v - v / w * w) (mf_keep a (v / w) σ)))
set_option maxRecDepth 100000 in
set_option maxHeartbeats 4000000 in
theorem cMM_shares (l : Launch) (D : va_G) (O : Nat → Nat) (K : Nat → ClassId) (a : Int32) (b : Int32) (v : Int64) (w : Int64) (σ : SM) (h1 : vp_in a 6) (h2 : vp_in b 6) : cV l yX2_shares wsX2_shares { frames := 1, cells := 0, slots := 0, locals := 100 } 0 0 D (mT K) (mW O K) σ [.ref (O 0), .int a, .int b, .long v, .long w] (mf_shares a b v w σ) := by
  intro sz
  refine z_start (cc := cX2_shares) (maxL := 7) (ret := none) (Qc := fun A => va_Qv (fun u9 => u9 = (mf_shares a b v w σ)) (zB D (mT K) (mW O K) A) A) sz (by decide) rfl (Nat.le_of_ble_eq_true rfl) ?_
  intro p e s m below meth c A X hA hK hP hD hS ls hl
  obtain ⟨hx, hb, hr, hml, hts, hown, hlocks, hnm⟩ := X
  have hown : s.vm.findClass RX2 = some m.cls := hown
  have hl : lv_has ls 7 [(0, .ref (O 0)), (1, .int a), (2, .int b), (3, .long v), (5, .long w)] := hl
  have inW : ∀ w ∈ wsX20, w ∈ wsX2_shares := fun w h => List.mem_cons_of_mem _ (List.mem_append_right _ h)
  have XX : CallFix p m c cX2_shares 7 s _ wsX2_shares RX2 := ⟨hx, hb, hml, hown, hts⟩
  refine lv_lload hx hb dX2_shares_0 (lv_at hl 4 rfl) ?_
  refine lv_lconst (v := 0) hx hb dX2_shares_2 (by decide) ?_
  refine W.lcmp hx hb dX2_shares_3 ?_
  refine lv_if_ne (tgt := 15) hx hb dX2_shares_4 (by decide) (fun c4 => ?_) (fun c4 => ?_)
  · refine lv_aload_n hx hb dX2_shares_15 rfl (lv_at hl 0 rfl) ?_
    refine lv_iload_n hx hb dX2_shares_16 rfl (lv_at hl 1 rfl) ?_
    refine lv_lload_n hx hb dX2_shares_17 rfl (lv_at hl 3 rfl) ?_
    refine lv_lload hx hb dX2_shares_18 (lv_at hl 4 rfl) ?_
    refine lv_ldiv hx hb dX2_shares_20 (z_l0 c4) ?_
    refine z_callv (As := [.int a, .long (v / w)]) (rest := []) XX (cMM_keep l D O K a (v / w) σ (h1)) (cwV 2 hts gX2_shares_X2_keep rfl rfl rfl qX2_keep ⟨by decide, by decide⟩) (va_recv hK hP (ci := 2) (q0 := 0) rfl rfl) hK hP hD hS hA rfl hl.1 rfl (Nat.le_of_ble_eq_true rfl) dX2_shares_21 ⟨Nat.zero_le _, Nat.zero_le _⟩ (fun H locs hP hD hS => ?_)
    refine lv_aload_n hx hb dX2_shares_24 rfl (lv_at hl 0 rfl) ?_
    refine lv_iload_n hx hb dX2_shares_25 rfl (lv_at hl 2 rfl) ?_
    refine lv_lload_n hx hb dX2_shares_26 rfl (lv_at hl 3 rfl) ?_
    refine lv_lload hx hb dX2_shares_27 (lv_at hl 4 rfl) ?_
    refine lv_lrem hx hb dX2_shares_29 (z_l0 c4) ?_
    refine z_callv (As := [.int b, .long (v - v / w * w)]) (rest := []) XX (cMM_keep l D O K b (v - v / w * w) (mf_keep a (v / w) σ) (h2)) (cwV 2 hts gX2_shares_X2_keep rfl rfl rfl qX2_keep ⟨by decide, by decide⟩) (va_recv hK hP (ci := 2) (q0 := 0) rfl rfl) hK hP hD hS hA rfl hl.1 rfl (Nat.le_of_ble_eq_true rfl) dX2_shares_30 ⟨Nat.zero_le _, Nat.zero_le _⟩ (fun H locs hP hD hS => ?_)
    refine lv_aload_n hx hb dX2_shares_33 rfl (lv_at hl 0 rfl) ?_
    refine lv_iconst (v := 0) hx hb dX2_shares_34 (by decide) ?_
    refine z_callv (As := [.int 0]) (rest := []) XX (cMM_ends l D O K 0 (mf_keep b (v - v / w * w) (mf_keep a (v / w) σ))) (cwV 1 hts gX2_shares_X2_ends rfl rfl rfl qX2_ends ⟨by decide, by decide⟩) (va_recv hK hP (ci := 2) (q0 := 0) rfl rfl) hK hP hD hS hA rfl hl.1 rfl (Nat.le_of_ble_eq_true rfl) dX2_shares_35 ⟨Nat.zero_le _, Nat.zero_le _⟩ (fun H locs hP hD hS => ?_)
    exact z_retv hx hb hr hlocks hK hP hD hS ((if_neg c4).trans (rfl)) dX2_shares_38
  · refine lv_aload_n hx hb dX2_shares_7 rfl (lv_at hl 0 rfl) ?_
    refine lv_iconst (v := 2) hx hb dX2_shares_8 (by decide) ?_
    refine z_callv (As := [.int 2]) (rest := []) XX (cMM_ends l D O K 2 σ) (cwV 1 hts gX2_shares_X2_ends rfl rfl rfl qX2_ends ⟨by decide, by decide⟩) (va_recv hK hP (ci := 2) (q0 := 0) rfl rfl) hK hP hD hS hA rfl hl.1 rfl (Nat.le_of_ble_eq_true rfl) dX2_shares_9 ⟨Nat.zero_le _, Nat.zero_le _⟩ (fun H locs hP hD hS => ?_)
    refine lv_goto (tgt := 38) hx hb dX2_shares_12 (by decide) ?_
    exact z_retv hx hb hr hlocks hK hP hD hS ((if_pos c4).trans (rfl)) dX2_shares_38
noncomputable def mf_falls  (k : Int32) (v : Int64) (σ : SM) : SM := if 30 ≤ (m_kp σ) then (ms_fe σ ((m_fe σ) + 1)) else (ms_kp (ms_kv (ms_kf (ms_kk (ms_fe σ ((m_fe σ) + 1)) (upd (m_kk σ) ((m_kp σ).toNatClampNeg) k)) (upd (m_kf σ) ((m_kp σ).toNatClampNeg) (m_fa σ))) (vp_updL (m_kv σ) ((m_kp σ).toNatClampNeg) v)) ((m_kp σ) + 1))
set_option maxRecDepth 100000 in
set_option maxHeartbeats 4000000 in
theorem cMM_falls (l : Launch) (D : va_G) (O : Nat → Nat) (K : Nat → ClassId) (k : Int32) (v : Int64) (σ : SM) (h1 : ¬ 30 ≤ m_kp σ → vp_in (m_kp σ) 30) : cV l yX2_falls wsX2_falls { frames := 0, cells := 0, slots := 0, locals := 0 } 0 0 D (mT K) (mW O K) σ [.ref (O 0), .int k, .long v] (mf_falls k v σ) := by
  intro sz
  refine z_start (cc := cX2_falls) (maxL := 4) (ret := none) (Qc := fun A => va_Qv (fun u9 => u9 = (mf_falls k v σ)) (zB D (mT K) (mW O K) A) A) sz (by decide) rfl (Nat.le_of_ble_eq_true rfl) ?_
  intro p e s m below meth c A X hA hK hP hD hS ls hl
  obtain ⟨hx, hb, hr, hml, hts, hown, hlocks, hnm⟩ := X
  have hown : s.vm.findClass RX2 = some m.cls := hown
  have hl : lv_has ls 4 [(0, .ref (O 0)), (1, .int k), (2, .long v)] := hl
  have inW : ∀ w ∈ wsX20, w ∈ wsX2_falls := fun w h => List.mem_cons_of_mem _ (List.mem_append_right _ h)
  have XX : CallFix p m c cX2_falls 4 s _ wsX2_falls RX2 := ⟨hx, hb, hml, hown, hts⟩
  have k141 := hts (.fieldLink RX2 141 "MailRoomModel" "fell" "I") (List.mem_of_getElem? (i := 1) rfl)
  have k144 := hts (.fieldLink RX2 144 "MailRoomModel" "kept" "I") (List.mem_of_getElem? (i := 2) rfl)
  have k50 := hts (.fieldLink RX2 50 "MailRoomModel" "keptKinds" "[I") (List.mem_of_getElem? (i := 3) rfl)
  have k53 := hts (.fieldLink RX2 53 "MailRoomModel" "keptFailures" "[I") (List.mem_of_getElem? (i := 4) rfl)
  have k93 := hts (.fieldLink RX2 93 "MailRoomModel" "failure" "I") (List.mem_of_getElem? (i := 5) rfl)
  have k56 := hts (.fieldLink RX2 56 "MailRoomModel" "keptValues" "[J") (List.mem_of_getElem? (i := 6) rfl)
  refine lv_aload_n hx hb dX2_falls_0 rfl (lv_at hl 0 rfl) ?_
  refine lv_dup hx hb dX2_falls_1 rfl ?_
  refine m_gi_fe (v := (m_fe σ)) hx hb hts inW hown hK hP (rfl) k141 dX2_falls_2 ?_
  refine lv_iconst (v := 1) hx hb dX2_falls_5 (by decide) ?_
  refine lv_iadd hx hb dX2_falls_6 ?_
  refine m_pi_fe hx hb hts inW hown hK hP hD hS k141 dX2_falls_7 (fun H locs hP hD hS => ?_)
  refine lv_aload_n hx hb dX2_falls_10 rfl (lv_at hl 0 rfl) ?_
  refine m_gi_kp (v := (m_kp σ)) hx hb hts inW hown hK hP (mr_kp_fe _ _) k144 dX2_falls_11 ?_
  refine lv_bipush (v := 30) hx hb dX2_falls_14 (by decide) ?_
  refine lv_icmp_ge (tgt := 62) hx hb dX2_falls_16 (by decide) (fun c16 => ?_) (fun c16 => ?_)
  · exact z_retv hx hb hr hlocks hK hP hD hS ((if_pos c16).trans (rfl)) dX2_falls_62
  · refine lv_aload_n hx hb dX2_falls_19 rfl (lv_at hl 0 rfl) ?_
    refine m_ga_14 hx hb hts inW hown hK hP k50 dX2_falls_20 ?_
    refine lv_aload_n hx hb dX2_falls_23 rfl (lv_at hl 0 rfl) ?_
    refine m_gi_kp (v := (m_kp σ)) hx hb hts inW hown hK hP (mr_kp_fe _ _) k144 dX2_falls_24 ?_
    refine lv_iload_n hx hb dX2_falls_27 rfl (lv_at hl 1 rfl) ?_
    refine m_st_kk (f := (m_kk σ)) (i := (m_kp σ)) hx hb hK hP hD hS (mr_kk_fe _ _) (h1 c16) dX2_falls_28 (fun H locs hP hD hS => ?_)
    refine lv_aload_n hx hb dX2_falls_29 rfl (lv_at hl 0 rfl) ?_
    refine m_ga_15 hx hb hts inW hown hK hP k53 dX2_falls_30 ?_
    refine lv_aload_n hx hb dX2_falls_33 rfl (lv_at hl 0 rfl) ?_
    refine m_gi_kp (v := (m_kp σ)) hx hb hts inW hown hK hP ((mr_kp_kk _ _).trans (mr_kp_fe _ _)) k144 dX2_falls_34 ?_
    refine lv_aload_n hx hb dX2_falls_37 rfl (lv_at hl 0 rfl) ?_
    refine m_gi_fa (v := (m_fa σ)) hx hb hts inW hown hK hP ((mr_fa_kk _ _).trans (mr_fa_fe _ _)) k93 dX2_falls_38 ?_
    refine m_st_kf (f := (m_kf σ)) (i := (m_kp σ)) hx hb hK hP hD hS ((mr_kf_kk _ _).trans (mr_kf_fe _ _)) (h1 c16) dX2_falls_41 (fun H locs hP hD hS => ?_)
    refine lv_aload_n hx hb dX2_falls_42 rfl (lv_at hl 0 rfl) ?_
    refine m_ga_16 hx hb hts inW hown hK hP k56 dX2_falls_43 ?_
    refine lv_aload_n hx hb dX2_falls_46 rfl (lv_at hl 0 rfl) ?_
    refine m_gi_kp (v := (m_kp σ)) hx hb hts inW hown hK hP ((mr_kp_kf _ _).trans ((mr_kp_kk _ _).trans (mr_kp_fe _ _))) k144 dX2_falls_47 ?_
    refine lv_lload_n hx hb dX2_falls_50 rfl (lv_at hl 2 rfl) ?_
    refine m_st_kv (f := (m_kv σ)) (i := (m_kp σ)) hx hb hK hP hD hS ((mr_kv_kf _ _).trans ((mr_kv_kk _ _).trans (mr_kv_fe _ _))) (h1 c16) dX2_falls_51 (fun H locs hP hD hS => ?_)
    refine lv_aload_n hx hb dX2_falls_52 rfl (lv_at hl 0 rfl) ?_
    refine lv_dup hx hb dX2_falls_53 rfl ?_
    refine m_gi_kp (v := (m_kp σ)) hx hb hts inW hown hK hP ((mr_kp_kv _ _).trans ((mr_kp_kf _ _).trans ((mr_kp_kk _ _).trans (mr_kp_fe _ _)))) k144 dX2_falls_54 ?_
    refine lv_iconst (v := 1) hx hb dX2_falls_57 (by decide) ?_
    refine lv_iadd hx hb dX2_falls_58 ?_
    refine m_pi_kp hx hb hts inW hown hK hP hD hS k144 dX2_falls_59 (fun H locs hP hD hS => ?_)
    exact z_retv hx hb hr hlocks hK hP hD hS ((if_neg c16).trans (rfl)) dX2_falls_62
theorem mq_ki_keep (b : Int32) (v : Int64) (σ : SM) : m_ki (mf_keep b v σ) = m_ki σ := (mr_ki_co _ _).trans (mr_ki_su _ _)
theorem mq_tp_keep (b : Int32) (v : Int64) (σ : SM) : m_tp (mf_keep b v σ) = m_tp σ := (mr_tp_co _ _).trans (mr_tp_su _ _)
theorem mq_sz_keep (b : Int32) (v : Int64) (σ : SM) : m_sz (mf_keep b v σ) = m_sz σ := (mr_sz_co _ _).trans (mr_sz_su _ _)
