noncomputable def xf_deliver  (k : Int32) (v : Int64) (σ : SX) : Int32 × SX := ((xf_begin 8 (xf_handlerOf k (xs_bl σ 0)) v 1 (xs_bl σ 0)).1, xs_bic ((xf_begin 8 (xf_handlerOf k (xs_bl σ 0)) v 1 (xs_bl σ 0)).2) ((x_bic ((xf_begin 8 (xf_handlerOf k (xs_bl σ 0)) v 1 (xs_bl σ 0)).2)) + (x_bl ((xf_begin 8 (xf_handlerOf k (xs_bl σ 0)) v 1 (xs_bl σ 0)).2))))
set_option maxRecDepth 100000 in
set_option maxHeartbeats 4000000 in
theorem cx_deliver (l : Launch) (D : va_G) (O : Nat → Nat) (K : Nat → ClassId) (ad : Nat → Nat) (k : Int32) (v : Int64) (σ : SX) (hok : xok σ) : cI l yX1_deliver wsX1_deliver { frames := 100, cells := 0, slots := 0, locals := 10000 } 0 0 D (xT K) (xW O K ad) σ [.ref (O 0), .int k, .long v] (xf_deliver k v σ) := by
  intro sz
  refine z_start (cc := cX1_deliver) (maxL := 5) (ret := (some .int)) (Qc := fun A => va_Qi (fun r9 u9 => r9 = (xf_deliver k v σ).1 ∧ u9 = (xf_deliver k v σ).2) (zB D (xT K) (xW O K ad) A) A) sz (by decide) rfl (Nat.le_of_ble_eq_true rfl) ?_
  intro p e s m below meth c A X hA hK hP hD hS ls hl
  obtain ⟨hx, hb, hr, hml, hts, hown, hlocks, hnm⟩ := X
  have hown : s.vm.findClass RX1 = some m.cls := hown
  have hl : lv_has ls 5 [(0, .ref (O 0)), (1, .int k), (2, .long v)] := hl
  have inW : ∀ w ∈ wsX10, w ∈ wsX1_deliver := fun w h => List.mem_cons_of_mem _ (List.mem_append_left _ (List.mem_append_right _ h))
  have XX : CallFix p m c cX1_deliver 5 s _ wsX1_deliver RX1 := ⟨hx, hb, hml, hown, hts⟩
  have k94 := hts (.fieldLink RX1 94 "MailRoom" "begunForLetter" "I") (List.mem_of_getElem? (i := 1) rfl)
  have k66 := hts (.fieldLink RX1 66 "MailRoom" "begunInCall" "I") (List.mem_of_getElem? (i := 2) rfl)
  refine lv_aload_n hx hb dX1_deliver_0 rfl (lv_at hl 0 rfl) ?_
  refine lv_iconst (v := 0) hx hb dX1_deliver_1 (by decide) ?_
  refine x_pi_bl hx hb hts inW hown hK hP hD hS k94 dX1_deliver_2 (fun H locs hP hD hS => ?_)
  refine lv_aload_n hx hb dX1_deliver_5 rfl (lv_at hl 0 rfl) ?_
  refine lv_aload_n hx hb dX1_deliver_6 rfl (lv_at hl 0 rfl) ?_
  refine lv_iload_n hx hb dX1_deliver_7 rfl (lv_at hl 1 rfl) ?_
  refine z_callq (As := [.int k]) (rest := [.ref (O 0)]) XX (cx_handlerOf l D O K ad k (xs_bl σ 0)) (cwV 1 hts gX1_deliver_X1_handlerOf rfl rfl rfl qX1_handlerOf ⟨by decide, by decide⟩) (va_recv hK hP (ci := 1) (q0 := 0) rfl rfl) hK hP hD hS hA rfl hl.1 rfl (Nat.le_of_ble_eq_true rfl) dX1_deliver_8 ⟨Nat.zero_le _, Nat.zero_le _⟩ (fun H locs hP hD hS => ?_)
  refine lv_lload_n hx hb dX1_deliver_11 rfl (lv_at hl 2 rfl) ?_
  refine lv_iconst (v := 1) hx hb dX1_deliver_12 (by decide) ?_
  refine z_calli (As := [va_re ad (xf_handlerOf k (xs_bl σ 0)), .long v, .int 1]) (rest := []) XX (cx_begin l D O K ad 8 (xf_handlerOf k (xs_bl σ 0)) v 1 (xs_bl σ 0) ((xpres.of (σ := σ) (τ := (xs_bl σ 0)) (xr_n_bl _ _) (xr_hd_bl _ _) (xr_tab_bl _ _)).2 (hok)) (xokr_handlerOf ((xpres.of (σ := σ) (τ := (xs_bl σ 0)) (xr_n_bl _ _) (xr_hd_bl _ _) (xr_tab_bl _ _)).2 (hok))) ⟨1, rfl, rfl⟩) (cwV 3 hts gX1_deliver_X1_begin rfl rfl rfl qX1_begin ⟨by decide, by decide⟩) (va_recv hK hP (ci := 1) (q0 := 0) rfl rfl) hK hP hD hS hA rfl hl.1 rfl (Nat.le_of_ble_eq_true rfl) dX1_deliver_13 ⟨Nat.zero_le _, Nat.zero_le _⟩ (fun H locs hP hD hS => ?_)
  refine lv_istore (lv' := [(4, .int ((xf_begin 8 (xf_handlerOf k (xs_bl σ 0)) v 1 (xs_bl σ 0)).1)), (0, .ref (O 0)), (1, .int k), (2, .long v)]) hx hb dX1_deliver_16 hl (by decide) rfl (fun ls hl => ?_)
  refine lv_aload_n hx hb dX1_deliver_18 rfl (lv_at hl 1 rfl) ?_
  refine lv_dup hx hb dX1_deliver_19 rfl ?_
  refine x_gi_bic (v := (x_bic ((xf_begin 8 (xf_handlerOf k (xs_bl σ 0)) v 1 (xs_bl σ 0)).2))) hx hb hts inW hown hK hP (rfl) k66 dX1_deliver_20 ?_
  refine lv_aload_n hx hb dX1_deliver_23 rfl (lv_at hl 1 rfl) ?_
  refine x_gi_bl (v := (x_bl ((xf_begin 8 (xf_handlerOf k (xs_bl σ 0)) v 1 (xs_bl σ 0)).2))) hx hb hts inW hown hK hP (rfl) k94 dX1_deliver_24 ?_
  refine lv_iadd hx hb dX1_deliver_27 ?_
  refine x_pi_bic hx hb hts inW hown hK hP hD hS k66 dX1_deliver_28 (fun H locs hP hD hS => ?_)
  refine lv_iload hx hb dX1_deliver_31 (lv_at hl 0 rfl) ?_
  exact z_reti hx hb hr hlocks rfl hK hP hD hS (rfl) dX1_deliver_33
theorem xp_deliver (k : Int32) (v : Int64) (σ : SX) (hok : xok σ) : xpres σ (xf_deliver k v σ).2 := by
  have h1 : xpres σ (xs_bl σ 0) := xpres.of (xr_n_bl _ _) (xr_hd_bl _ _) (xr_tab_bl _ _)
  unfold xf_deliver
  exact xpres.trans (h1.trans (xp_begin 8 _ _ _ _ (h1.2 hok) (xokr_handlerOf (h1.2 hok)))) (xpres.of (xr_n_bic _ _) (xr_hd_bic _ _) (xr_tab_bic _ _))
noncomputable def xf_takeFirst   (σ : SX) : SX := if (x_qf σ) < 0 then σ else (if (x_qf σ) < 40 then (if (xf_deliver ((x_qk σ) (x_qf σ).toNatClampNeg) ((x_qv σ) (x_qf σ).toNatClampNeg) (xs_tk (xs_qs (xs_qf σ (((x_qf σ) + 1) - ((x_qf σ) + 1) / 40 * 40)) ((x_qs σ) - 1)) ((x_tk σ) + 1))).1 = 0 then ((xf_deliver ((x_qk σ) (x_qf σ).toNatClampNeg) ((x_qv σ) (x_qf σ).toNatClampNeg) (xs_tk (xs_qs (xs_qf σ (((x_qf σ) + 1) - ((x_qf σ) + 1) / 40 * 40)) ((x_qs σ) - 1)) ((x_tk σ) + 1))).2) else (xf_noteFailed ((x_qk σ) (x_qf σ).toNatClampNeg) ((x_qv σ) (x_qf σ).toNatClampNeg) ((xf_deliver ((x_qk σ) (x_qf σ).toNatClampNeg) ((x_qv σ) (x_qf σ).toNatClampNeg) (xs_tk (xs_qs (xs_qf σ (((x_qf σ) + 1) - ((x_qf σ) + 1) / 40 * 40)) ((x_qs σ) - 1)) ((x_tk σ) + 1))).1) ((xf_deliver ((x_qk σ) (x_qf σ).toNatClampNeg) ((x_qv σ) (x_qf σ).toNatClampNeg) (xs_tk (xs_qs (xs_qf σ (((x_qf σ) + 1) - ((x_qf σ) + 1) / 40 * 40)) ((x_qs σ) - 1)) ((x_tk σ) + 1))).2))) else σ)
set_option maxRecDepth 100000 in
set_option maxHeartbeats 4000000 in
theorem cx_takeFirst (l : Launch) (D : va_G) (O : Nat → Nat) (K : Nat → ClassId) (ad : Nat → Nat)  (σ : SX) (hok : xok σ) : cV l yX1_takeFirst wsX1_takeFirst { frames := 101, cells := 0, slots := 0, locals := 10100 } 0 0 D (xT K) (xW O K ad) σ [.ref (O 0)] (xf_takeFirst σ) := by
  intro sz
  refine z_start (cc := cX1_takeFirst) (maxL := 6) (ret := none) (Qc := fun A => va_Qv (fun u9 => u9 = (xf_takeFirst σ)) (zB D (xT K) (xW O K ad) A) A) sz (by decide) rfl (Nat.le_of_ble_eq_true rfl) ?_
  intro p e s m below meth c A X hA hK hP hD hS ls hl
  obtain ⟨hx, hb, hr, hml, hts, hown, hlocks, hnm⟩ := X
  have hown : s.vm.findClass RX1 = some m.cls := hown
  have hl : lv_has ls 6 [(0, .ref (O 0))] := hl
  have inW : ∀ w ∈ wsX10, w ∈ wsX1_takeFirst := fun w h => List.mem_cons_of_mem _ (List.mem_append_left _ (List.mem_append_right _ h))
  have XX : CallFix p m c cX1_takeFirst 6 s _ wsX1_takeFirst RX1 := ⟨hx, hb, hml, hown, hts⟩
  have k87 := hts (.fieldLink RX1 87 "MailRoom" "queueFirst" "I") (List.mem_of_getElem? (i := 1) rfl)
  have k23 := hts (.fieldLink RX1 23 "MailRoom" "queueKinds" "[I") (List.mem_of_getElem? (i := 2) rfl)
  have k26 := hts (.fieldLink RX1 26 "MailRoom" "queueValues" "[J") (List.mem_of_getElem? (i := 3) rfl)
  have k63 := hts (.fieldLink RX1 63 "MailRoom" "queueSize" "I") (List.mem_of_getElem? (i := 4) rfl)
  have k81 := hts (.fieldLink RX1 81 "MailRoom" "taken" "I") (List.mem_of_getElem? (i := 5) rfl)
  refine lv_aload_n hx hb dX1_takeFirst_0 rfl (lv_at hl 0 rfl) ?_
  refine x_gi_qf (v := (x_qf σ)) hx hb hts inW hown hK hP (rfl) k87 dX1_takeFirst_1 ?_
  refine lv_istore_n (lv' := [(1, .int (x_qf σ)), (0, .ref (O 0))]) hx hb dX1_takeFirst_4 rfl hl (by decide) rfl (fun ls hl => ?_)
  refine lv_iload_n hx hb dX1_takeFirst_5 rfl (lv_at hl 0 rfl) ?_
  refine lv_if_lt (tgt := 15) hx hb dX1_takeFirst_6 (by decide) (fun c6 => ?_) (fun c6 => ?_)
  · exact z_retv hx hb hr hlocks hK hP hD hS ((if_pos c6).trans (rfl)) dX1_takeFirst_15
  · refine lv_iload_n hx hb dX1_takeFirst_9 rfl (lv_at hl 0 rfl) ?_
    refine lv_bipush (v := 40) hx hb dX1_takeFirst_10 (by decide) ?_
    refine lv_icmp_lt (tgt := 16) hx hb dX1_takeFirst_12 (by decide) (fun c12 => ?_) (fun c12 => ?_)
    · refine lv_aload_n hx hb dX1_takeFirst_16 rfl (lv_at hl 1 rfl) ?_
      refine x_ga_4 hx hb hts inW hown hK hP k23 dX1_takeFirst_17 ?_
      refine lv_iload_n hx hb dX1_takeFirst_20 rfl (lv_at hl 0 rfl) ?_
      refine x_ld_qk (f := (x_qk σ)) (i := (x_qf σ)) hx hb hK hP (rfl) (x_lt40 (by assumption) (by assumption)) dX1_takeFirst_21 ?_
      refine lv_istore_n (lv' := [(2, .int ((x_qk σ) (x_qf σ).toNatClampNeg)), (1, .int (x_qf σ)), (0, .ref (O 0))]) hx hb dX1_takeFirst_22 rfl hl (by decide) rfl (fun ls hl => ?_)
      refine lv_aload_n hx hb dX1_takeFirst_23 rfl (lv_at hl 2 rfl) ?_
      refine x_ga_5 hx hb hts inW hown hK hP k26 dX1_takeFirst_24 ?_
      refine lv_iload_n hx hb dX1_takeFirst_27 rfl (lv_at hl 1 rfl) ?_
      refine x_ld_qv (f := (x_qv σ)) (i := (x_qf σ)) hx hb hK hP (rfl) (x_lt40 (by assumption) (by assumption)) dX1_takeFirst_28 ?_
      refine lv_lstore_n (lv' := [(3, .long ((x_qv σ) (x_qf σ).toNatClampNeg)), (2, .int ((x_qk σ) (x_qf σ).toNatClampNeg)), (1, .int (x_qf σ)), (0, .ref (O 0))]) hx hb dX1_takeFirst_29 rfl hl (by decide) rfl (fun ls hl => ?_)
      refine lv_aload_n hx hb dX1_takeFirst_30 rfl (lv_at hl 3 rfl) ?_
      refine lv_iload_n hx hb dX1_takeFirst_31 rfl (lv_at hl 2 rfl) ?_
      refine lv_iconst (v := 1) hx hb dX1_takeFirst_32 (by decide) ?_
      refine lv_iadd hx hb dX1_takeFirst_33 ?_
      refine lv_bipush (v := 40) hx hb dX1_takeFirst_34 (by decide) ?_
      refine lv_irem hx hb dX1_takeFirst_36 (by decide) ?_
      refine x_pi_qf hx hb hts inW hown hK hP hD hS k87 dX1_takeFirst_37 (fun H locs hP hD hS => ?_)
      refine lv_aload_n hx hb dX1_takeFirst_40 rfl (lv_at hl 3 rfl) ?_
      refine lv_dup hx hb dX1_takeFirst_41 rfl ?_
      refine x_gi_qs (v := (x_qs σ)) hx hb hts inW hown hK hP (xr_qs_qf _ _) k63 dX1_takeFirst_42 ?_
      refine lv_iconst (v := 1) hx hb dX1_takeFirst_45 (by decide) ?_
      refine lv_isub hx hb dX1_takeFirst_46 ?_
      refine x_pi_qs hx hb hts inW hown hK hP hD hS k63 dX1_takeFirst_47 (fun H locs hP hD hS => ?_)
      refine lv_aload_n hx hb dX1_takeFirst_50 rfl (lv_at hl 3 rfl) ?_
      refine lv_dup hx hb dX1_takeFirst_51 rfl ?_
      refine x_gi_tk (v := (x_tk σ)) hx hb hts inW hown hK hP ((xr_tk_qs _ _).trans (xr_tk_qf _ _)) k81 dX1_takeFirst_52 ?_
      refine lv_iconst (v := 1) hx hb dX1_takeFirst_55 (by decide) ?_
      refine lv_iadd hx hb dX1_takeFirst_56 ?_
      refine x_pi_tk hx hb hts inW hown hK hP hD hS k81 dX1_takeFirst_57 (fun H locs hP hD hS => ?_)
      refine lv_aload_n hx hb dX1_takeFirst_60 rfl (lv_at hl 3 rfl) ?_
      refine lv_iload_n hx hb dX1_takeFirst_61 rfl (lv_at hl 1 rfl) ?_
      refine lv_lload_n hx hb dX1_takeFirst_62 rfl (lv_at hl 0 rfl) ?_
      refine z_calli (As := [.int ((x_qk σ) (x_qf σ).toNatClampNeg), .long ((x_qv σ) (x_qf σ).toNatClampNeg)]) (rest := []) XX (cx_deliver l D O K ad ((x_qk σ) (x_qf σ).toNatClampNeg) ((x_qv σ) (x_qf σ).toNatClampNeg) (xs_tk (xs_qs (xs_qf σ (((x_qf σ) + 1) - ((x_qf σ) + 1) / 40 * 40)) ((x_qs σ) - 1)) ((x_tk σ) + 1)) ((xpres.of (σ := σ) (τ := (xs_tk (xs_qs (xs_qf σ (((x_qf σ) + 1) - ((x_qf σ) + 1) / 40 * 40)) ((x_qs σ) - 1)) ((x_tk σ) + 1))) ((xr_n_tk _ _).trans ((xr_n_qs _ _).trans (xr_n_qf _ _))) ((xr_hd_tk _ _).trans ((xr_hd_qs _ _).trans (xr_hd_qf _ _))) ((xr_tab_tk _ _).trans ((xr_tab_qs _ _).trans (xr_tab_qf _ _)))).2 (hok))) (cwV 2 hts gX1_takeFirst_X1_deliver rfl rfl rfl qX1_deliver ⟨by decide, by decide⟩) (va_recv hK hP (ci := 1) (q0 := 0) rfl rfl) hK hP hD hS hA rfl hl.1 rfl (Nat.le_of_ble_eq_true rfl) dX1_takeFirst_63 ⟨Nat.zero_le _, Nat.zero_le _⟩ (fun H locs hP hD hS => ?_)
      refine lv_istore (lv' := [(5, .int ((xf_deliver ((x_qk σ) (x_qf σ).toNatClampNeg) ((x_qv σ) (x_qf σ).toNatClampNeg) (xs_tk (xs_qs (xs_qf σ (((x_qf σ) + 1) - ((x_qf σ) + 1) / 40 * 40)) ((x_qs σ) - 1)) ((x_tk σ) + 1))).1)), (3, .long ((x_qv σ) (x_qf σ).toNatClampNeg)), (2, .int ((x_qk σ) (x_qf σ).toNatClampNeg)), (1, .int (x_qf σ)), (0, .ref (O 0))]) hx hb dX1_takeFirst_66 hl (by decide) rfl (fun ls hl => ?_)
      refine lv_iload hx hb dX1_takeFirst_68 (lv_at hl 0 rfl) ?_
      refine lv_if_eq (tgt := 81) hx hb dX1_takeFirst_70 (by decide) (fun c70 => ?_) (fun c70 => ?_)
      · exact z_retv hx hb hr hlocks hK hP hD hS ((if_neg c6).trans ((if_pos c12).trans ((if_pos c70).trans (rfl)))) dX1_takeFirst_81
      · refine lv_aload_n hx hb dX1_takeFirst_73 rfl (lv_at hl 4 rfl) ?_
        refine lv_iload_n hx hb dX1_takeFirst_74 rfl (lv_at hl 2 rfl) ?_
        refine lv_lload_n hx hb dX1_takeFirst_75 rfl (lv_at hl 1 rfl) ?_
        refine lv_iload hx hb dX1_takeFirst_76 (lv_at hl 0 rfl) ?_
        refine z_callv (As := [.int ((x_qk σ) (x_qf σ).toNatClampNeg), .long ((x_qv σ) (x_qf σ).toNatClampNeg), .int ((xf_deliver ((x_qk σ) (x_qf σ).toNatClampNeg) ((x_qv σ) (x_qf σ).toNatClampNeg) (xs_tk (xs_qs (xs_qf σ (((x_qf σ) + 1) - ((x_qf σ) + 1) / 40 * 40)) ((x_qs σ) - 1)) ((x_tk σ) + 1))).1)]) (rest := []) XX (cx_noteFailed l D O K ad ((x_qk σ) (x_qf σ).toNatClampNeg) ((x_qv σ) (x_qf σ).toNatClampNeg) ((xf_deliver ((x_qk σ) (x_qf σ).toNatClampNeg) ((x_qv σ) (x_qf σ).toNatClampNeg) (xs_tk (xs_qs (xs_qf σ (((x_qf σ) + 1) - ((x_qf σ) + 1) / 40 * 40)) ((x_qs σ) - 1)) ((x_tk σ) + 1))).1) ((xf_deliver ((x_qk σ) (x_qf σ).toNatClampNeg) ((x_qv σ) (x_qf σ).toNatClampNeg) (xs_tk (xs_qs (xs_qf σ (((x_qf σ) + 1) - ((x_qf σ) + 1) / 40 * 40)) ((x_qs σ) - 1)) ((x_tk σ) + 1))).2)) (cwV 3 hts gX1_takeFirst_X1_noteFailed rfl rfl rfl qX1_noteFailed ⟨by decide, by decide⟩) (va_recv hK hP (ci := 1) (q0 := 0) rfl rfl) hK hP hD hS hA rfl hl.1 rfl (Nat.le_of_ble_eq_true rfl) dX1_takeFirst_78 ⟨Nat.zero_le _, Nat.zero_le _⟩ (fun H locs hP hD hS => ?_)
        exact z_retv hx hb hr hlocks hK hP hD hS ((if_neg c6).trans ((if_pos c12).trans ((if_neg c70).trans (rfl)))) dX1_takeFirst_81
    · exact z_retv hx hb hr hlocks hK hP hD hS ((if_neg c6).trans ((if_neg c12).trans (rfl))) dX1_takeFirst_15
noncomputable def xf_give  (k : Int32) (v : Int64) (σ : SX) : Int32 × SX := if (xf_isKind k) = 0 then ((-2), σ) else (if (xf_deliver k v (xs_bic σ 0)).1 = 0 then (1, (xf_deliver k v (xs_bic σ 0)).2) else (((-10) - (xf_deliver k v (xs_bic σ 0)).1), (xf_deliver k v (xs_bic σ 0)).2))
set_option maxRecDepth 100000 in
set_option maxHeartbeats 4000000 in
theorem cx_give (l : Launch) (D : va_G) (O : Nat → Nat) (K : Nat → ClassId) (ad : Nat → Nat) (k : Int32) (v : Int64) (σ : SX) (hok : xok σ) : cI l yX1_give wsX1_give { frames := 102, cells := 0, slots := 0, locals := 10200 } 0 0 D (xT K) (xW O K ad) σ [.ref (O 0), .int k, .long v] (xf_give k v σ) := by
  intro sz
  refine z_start (cc := cX1_give) (maxL := 5) (ret := (some .int)) (Qc := fun A => va_Qi (fun r9 u9 => r9 = (xf_give k v σ).1 ∧ u9 = (xf_give k v σ).2) (zB D (xT K) (xW O K ad) A) A) sz (by decide) rfl (Nat.le_of_ble_eq_true rfl) ?_
  intro p e s m below meth c A X hA hK hP hD hS ls hl
  obtain ⟨hx, hb, hr, hml, hts, hown, hlocks, hnm⟩ := X
  have hown : s.vm.findClass RX1 = some m.cls := hown
  have hl : lv_has ls 5 [(0, .ref (O 0)), (1, .int k), (2, .long v)] := hl
  have inW : ∀ w ∈ wsX10, w ∈ wsX1_give := fun w h => List.mem_cons_of_mem _ (List.mem_append_left _ (List.mem_append_right _ h))
  have XX : CallFix p m c cX1_give 5 s _ wsX1_give RX1 := ⟨hx, hb, hml, hown, hts⟩
  have k66 := hts (.fieldLink RX1 66 "MailRoom" "begunInCall" "I") (List.mem_of_getElem? (i := 1) rfl)
  refine lv_iload_n hx hb dX1_give_0 rfl (lv_at hl 1 rfl) ?_
  refine z_calls (As := [.int k]) (rest := []) XX (cx_isKind l k) (va_cwS 1 hts gX1_give_X1_isKind rfl rfl rfl qX1_isKind ⟨by decide, by decide⟩) rfl hl.1 rfl (Nat.le_of_ble_eq_true rfl) dX1_give_1 ⟨Nat.zero_le _, Nat.zero_le _⟩ ?_
  refine lv_if_ne (tgt := 10) hx hb dX1_give_4 (by decide) (fun c4 => ?_) (fun c4 => ?_)
  · refine lv_aload_n hx hb dX1_give_10 rfl (lv_at hl 0 rfl) ?_
    refine lv_iconst (v := 0) hx hb dX1_give_11 (by decide) ?_
    refine x_pi_bic hx hb hts inW hown hK hP hD hS k66 dX1_give_12 (fun H locs hP hD hS => ?_)
    refine lv_aload_n hx hb dX1_give_15 rfl (lv_at hl 0 rfl) ?_
    refine lv_iload_n hx hb dX1_give_16 rfl (lv_at hl 1 rfl) ?_
    refine lv_lload_n hx hb dX1_give_17 rfl (lv_at hl 2 rfl) ?_
    refine z_calli (As := [.int k, .long v]) (rest := []) XX (cx_deliver l D O K ad k v (xs_bic σ 0) ((xpres.of (σ := σ) (τ := (xs_bic σ 0)) (xr_n_bic _ _) (xr_hd_bic _ _) (xr_tab_bic _ _)).2 (hok))) (cwV 2 hts gX1_give_X1_deliver rfl rfl rfl qX1_deliver ⟨by decide, by decide⟩) (va_recv hK hP (ci := 1) (q0 := 0) rfl rfl) hK hP hD hS hA rfl hl.1 rfl (Nat.le_of_ble_eq_true rfl) dX1_give_18 ⟨Nat.zero_le _, Nat.zero_le _⟩ (fun H locs hP hD hS => ?_)
    refine lv_istore (lv' := [(4, .int ((xf_deliver k v (xs_bic σ 0)).1)), (0, .ref (O 0)), (1, .int k), (2, .long v)]) hx hb dX1_give_21 hl (by decide) rfl (fun ls hl => ?_)
    refine lv_iload hx hb dX1_give_23 (lv_at hl 0 rfl) ?_
    refine lv_if_ne (tgt := 32) hx hb dX1_give_25 (by decide) (fun c25 => ?_) (fun c25 => ?_)
    · refine lv_bipush (v := (-10)) hx hb dX1_give_32 (by decide) ?_
      refine lv_iload hx hb dX1_give_34 (lv_at hl 0 rfl) ?_
      refine lv_isub hx hb dX1_give_36 ?_
      exact z_reti hx hb hr hlocks rfl hK hP hD hS ((if_neg c4).trans ((if_neg c25).trans (rfl))) dX1_give_37
    · refine lv_iconst (v := 1) hx hb dX1_give_28 (by decide) ?_
      refine lv_goto (tgt := 37) hx hb dX1_give_29 (by decide) ?_
      exact z_reti hx hb hr hlocks rfl hK hP hD hS ((if_neg c4).trans ((if_pos c25).trans (rfl))) dX1_give_37
  · refine lv_bipush (v := (-2)) hx hb dX1_give_7 (by decide) ?_
    exact z_reti hx hb hr hlocks rfl hK hP hD hS ((if_pos c4).trans (rfl)) dX1_give_9

