set_option maxRecDepth 100000 in
set_option maxHeartbeats 4000000 in
theorem cMM_give (l : Launch) (D : va_G) (O : Nat → Nat) (K : Nat → ClassId) (k : Int32) (v : Int64) (σ : SM) (RR : Int32 × SM) (hg : mGv k v σ RR) : cI l yX2_give wsX2_give { frames := 4, cells := 0, slots := 0, locals := 400 } 0 0 D (mT K) (mW O K) σ [.ref (O 0), .int k, .long v] RR := by
  intro sz
  refine z_start (cc := cX2_give) (maxL := 4) (ret := (some .int)) (Qc := fun A => va_Qi (fun r9 u9 => r9 = RR.1 ∧ u9 = RR.2) (zB D (mT K) (mW O K) A) A) sz (by decide) rfl (Nat.le_of_ble_eq_true rfl) ?_
  intro p e s m below meth c A X hA hK hP hD hS ls hl
  obtain ⟨hx, hb, hr, hml, hts, hown, hlocks, hnm⟩ := X
  have hown : s.vm.findClass RX2 = some m.cls := hown
  have hl : lv_has ls 4 [(0, .ref (O 0)), (1, .int k), (2, .long v)] := hl
  have inW : ∀ w ∈ wsX20, w ∈ wsX2_give := fun w h => List.mem_cons_of_mem _ (List.mem_append_right _ h)
  have XX : CallFix p m c cX2_give 4 s _ wsX2_give RX2 := ⟨hx, hb, hml, hown, hts⟩
  have k112 := hts (.fieldLink RX2 112 "MailRoomModel" "latest" "I") (List.mem_of_getElem? (i := 1) rfl)
  have k41 := hts (.fieldLink RX2 41 "MailRoomModel" "stands" "[I") (List.mem_of_getElem? (i := 2) rfl)
  have k93 := hts (.fieldLink RX2 93 "MailRoomModel" "failure" "I") (List.mem_of_getElem? (i := 3) rfl)
  refine lv_iload_n hx hb dX2_give_0 rfl (lv_at hl 1 rfl) ?_
  refine z_calls (As := [.int k]) (rest := []) XX (cMM_isKind l k) (va_cwS 1 hts gX2_give_X2_isKind rfl rfl rfl qX2_isKind ⟨by decide, by decide⟩) rfl hl.1 rfl (Nat.le_of_ble_eq_true rfl) dX2_give_1 ⟨Nat.zero_le _, Nat.zero_le _⟩ ?_
  refine lv_if_ne (tgt := 10) hx hb dX2_give_4 (by decide) (fun c4 => ?_) (fun c4 => ?_)
  · obtain ⟨τ, hR, ht, hRR⟩ := hg.2 c4
    refine lv_aload_n hx hb dX2_give_10 rfl (lv_at hl 0 rfl) ?_
    refine lv_iconst (v := 0) hx hb dX2_give_11 (by decide) ?_
    refine m_pi_la hx hb hts inW hown hK hP hD hS k112 dX2_give_12 (fun H locs hP hD hS => ?_)
    refine lv_aload_n hx hb dX2_give_15 rfl (lv_at hl 0 rfl) ?_
    refine lv_aload_n hx hb dX2_give_16 rfl (lv_at hl 0 rfl) ?_
    refine m_ga_11 hx hb hts inW hown hK hP k41 dX2_give_17 ?_
    refine lv_iload_n hx hb dX2_give_20 rfl (lv_at hl 1 rfl) ?_
    refine m_ld_st (f := (m_st σ)) (i := k) hx hb hK hP (mr_st_la _ _) (mkind_in (by assumption)) dX2_give_21 ?_
    refine lv_lload_n hx hb dX2_give_22 rfl (lv_at hl 2 rfl) ?_
    refine z_callv (As := [.int ((m_st σ) k.toNatClampNeg), .long v]) (rest := []) XX (cMM_go l D O K ((m_st σ) k.toNatClampNeg) v (ms_la σ 0) τ hR ht) (cwV 2 hts gX2_give_X2_go rfl rfl rfl qX2_go ⟨by decide, by decide⟩) (va_recv hK hP (ci := 2) (q0 := 0) rfl rfl) hK hP hD hS hA rfl hl.1 rfl (Nat.le_of_ble_eq_true rfl) dX2_give_23 ⟨Nat.zero_le _, Nat.zero_le _⟩ (fun H locs hP hD hS => ?_)
    refine lv_aload_n hx hb dX2_give_26 rfl (lv_at hl 0 rfl) ?_
    refine m_gi_fa (v := (m_fa (ms_la τ (m_la τ + m_bg τ)))) hx hb hts inW hown hK hP (rfl) k93 dX2_give_27 ?_
    refine lv_if_eq (tgt := 43) hx hb dX2_give_30 (by decide) (fun c30 => ?_) (fun c30 => ?_)
    · refine lv_iconst (v := 1) hx hb dX2_give_43 (by decide) ?_
      exact z_reti hx hb hr hlocks rfl hK hP hD hS (hRR.trans ((if_pos c30).trans rfl)) dX2_give_44
    · refine lv_bipush (v := (-10)) hx hb dX2_give_33 (by decide) ?_
      refine lv_aload_n hx hb dX2_give_35 rfl (lv_at hl 0 rfl) ?_
      refine m_gi_fa (v := (m_fa (ms_la τ (m_la τ + m_bg τ)))) hx hb hts inW hown hK hP (rfl) k93 dX2_give_36 ?_
      refine lv_isub hx hb dX2_give_39 ?_
      refine lv_goto (tgt := 44) hx hb dX2_give_40 (by decide) ?_
      exact z_reti hx hb hr hlocks rfl hK hP hD hS (hRR.trans ((if_neg c30).trans rfl)) dX2_give_44
  · refine lv_bipush (v := (-2)) hx hb dX2_give_7 (by decide) ?_
    exact z_reti hx hb hr hlocks rfl hK hP hD hS (hg.1 c4) dX2_give_9
