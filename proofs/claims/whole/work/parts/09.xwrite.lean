noncomputable def xf_keep  (b : Int32) (v : Int64) (σ : SX) : Int32 × SX := if (xf_isBox b) = 0 then (3, σ) else (0, xs_bc (xs_bs σ (vp_updL (x_bs σ) b.toNatClampNeg (((x_bs σ) b.toNatClampNeg) + v))) (upd (x_bc σ) b.toNatClampNeg (((x_bc σ) b.toNatClampNeg) + 1)))
set_option maxRecDepth 100000 in
set_option maxHeartbeats 4000000 in
theorem cx_keep (l : Launch) (D : va_G) (O : Nat → Nat) (K : Nat → ClassId) (ad : Nat → Nat) (b : Int32) (v : Int64) (σ : SX)  : cI l yX1_keep wsX1_keep { frames := 1, cells := 0, slots := 0, locals := 100 } 0 0 D (xT K) (xW O K ad) σ [.ref (O 0), .int b, .long v] (xf_keep b v σ) := by
  intro sz
  refine z_start (cc := cX1_keep) (maxL := 4) (ret := (some .int)) (Qc := fun A => va_Qi (fun r9 u9 => r9 = (xf_keep b v σ).1 ∧ u9 = (xf_keep b v σ).2) (zB D (xT K) (xW O K ad) A) A) sz (by decide) rfl (Nat.le_of_ble_eq_true rfl) ?_
  intro p e s m below meth c A X hA hK hP hD hS ls hl
  obtain ⟨hx, hb, hr, hml, hts, hown, hlocks, hnm⟩ := X
  have hown : s.vm.findClass RX1 = some m.cls := hown
  have hl : lv_has ls 4 [(0, .ref (O 0)), (1, .int b), (2, .long v)] := hl
  have inW : ∀ w ∈ wsX10, w ∈ wsX1_keep := fun w h => List.mem_cons_of_mem _ (List.mem_append_right _ h)
  have XX : CallFix p m c cX1_keep 4 s _ wsX1_keep RX1 := ⟨hx, hb, hml, hown, hts⟩
  have k9 := hts (.fieldLink RX1 9 "MailRoom" "boxSums" "[J") (List.mem_of_getElem? (i := 1) rfl)
  have k13 := hts (.fieldLink RX1 13 "MailRoom" "boxCounts" "[I") (List.mem_of_getElem? (i := 2) rfl)
  refine lv_iload_n hx hb dX1_keep_0 rfl (lv_at hl 1 rfl) ?_
  refine z_calls (As := [.int b]) (rest := []) XX (cx_isBox l b) (va_cwS 1 hts gX1_keep_X1_isBox rfl rfl rfl qX1_isBox ⟨by decide, by decide⟩) rfl hl.1 rfl (Nat.le_of_ble_eq_true rfl) dX1_keep_1 ⟨Nat.zero_le _, Nat.zero_le _⟩ ?_
  refine lv_if_ne (tgt := 9) hx hb dX1_keep_4 (by decide) (fun c4 => ?_) (fun c4 => ?_)
  · refine lv_aload_n hx hb dX1_keep_9 rfl (lv_at hl 0 rfl) ?_
    refine x_ga_1 hx hb hts inW hown hK hP k9 dX1_keep_10 ?_
    refine lv_iload_n hx hb dX1_keep_13 rfl (lv_at hl 1 rfl) ?_
    refine lv_dup2_11 hx hb dX1_keep_14 rfl rfl ?_
    refine x_ld_bs (f := (x_bs σ)) (i := b) hx hb hK hP (rfl) (xbox_in (by assumption)) dX1_keep_15 ?_
    refine lv_lload_n hx hb dX1_keep_16 rfl (lv_at hl 2 rfl) ?_
    refine lv_ladd hx hb dX1_keep_17 ?_
    refine x_st_bs (f := (x_bs σ)) (i := b) hx hb hK hP hD hS (rfl) (xbox_in (by assumption)) dX1_keep_18 (fun H locs hP hD hS => ?_)
    refine lv_aload_n hx hb dX1_keep_19 rfl (lv_at hl 0 rfl) ?_
    refine x_ga_2 hx hb hts inW hown hK hP k13 dX1_keep_20 ?_
    refine lv_iload_n hx hb dX1_keep_23 rfl (lv_at hl 1 rfl) ?_
    refine lv_dup2_11 hx hb dX1_keep_24 rfl rfl ?_
    refine x_ld_bc (f := (x_bc σ)) (i := b) hx hb hK hP (xr_bc_bs _ _) (xbox_in (by assumption)) dX1_keep_25 ?_
    refine lv_iconst (v := 1) hx hb dX1_keep_26 (by decide) ?_
    refine lv_iadd hx hb dX1_keep_27 ?_
    refine x_st_bc (f := (x_bc σ)) (i := b) hx hb hK hP hD hS (xr_bc_bs _ _) (xbox_in (by assumption)) dX1_keep_28 (fun H locs hP hD hS => ?_)
    refine lv_iconst (v := 0) hx hb dX1_keep_29 (by decide) ?_
    exact z_reti hx hb hr hlocks rfl hK hP hD hS ((if_neg c4).trans (rfl)) dX1_keep_30
  · refine lv_iconst (v := 3) hx hb dX1_keep_7 (by decide) ?_
    exact z_reti hx hb hr hlocks rfl hK hP hD hS ((if_pos c4).trans (rfl)) dX1_keep_8
noncomputable def xf_enqueue  (k : Int32) (v : Int64) (σ : SX) : Int32 × SX := if (x_qs σ) < 40 then (if 0 ≤ (((x_qf σ) + (x_qs σ)) - ((x_qf σ) + (x_qs σ)) / 40 * 40) then (0, xs_qs (xs_qv (xs_qk σ (upd (x_qk σ) ((((x_qf σ) + (x_qs σ)) - ((x_qf σ) + (x_qs σ)) / 40 * 40).toNatClampNeg) k)) (vp_updL (x_qv σ) ((((x_qf σ) + (x_qs σ)) - ((x_qf σ) + (x_qs σ)) / 40 * 40).toNatClampNeg) v)) ((x_qs σ) + 1)) else (5, σ)) else (5, σ)
set_option maxRecDepth 100000 in
set_option maxHeartbeats 4000000 in
theorem cx_enqueue (l : Launch) (D : va_G) (O : Nat → Nat) (K : Nat → ClassId) (ad : Nat → Nat) (k : Int32) (v : Int64) (σ : SX)  : cI l yX1_enqueue wsX1_enqueue { frames := 0, cells := 0, slots := 0, locals := 0 } 0 0 D (xT K) (xW O K ad) σ [.ref (O 0), .int k, .long v] (xf_enqueue k v σ) := by
  intro sz
  refine z_start (cc := cX1_enqueue) (maxL := 5) (ret := (some .int)) (Qc := fun A => va_Qi (fun r9 u9 => r9 = (xf_enqueue k v σ).1 ∧ u9 = (xf_enqueue k v σ).2) (zB D (xT K) (xW O K ad) A) A) sz (by decide) rfl (Nat.le_of_ble_eq_true rfl) ?_
  intro p e s m below meth c A X hA hK hP hD hS ls hl
  obtain ⟨hx, hb, hr, hml, hts, hown, hlocks, hnm⟩ := X
  have hown : s.vm.findClass RX1 = some m.cls := hown
  have hl : lv_has ls 5 [(0, .ref (O 0)), (1, .int k), (2, .long v)] := hl
  have inW : ∀ w ∈ wsX10, w ∈ wsX1_enqueue := fun w h => List.mem_cons_of_mem _ (List.mem_append_right _ h)
  have XX : CallFix p m c cX1_enqueue 5 s _ wsX1_enqueue RX1 := ⟨hx, hb, hml, hown, hts⟩
  have k63 := hts (.fieldLink RX1 63 "MailRoom" "queueSize" "I") (List.mem_of_getElem? (i := 1) rfl)
  have k87 := hts (.fieldLink RX1 87 "MailRoom" "queueFirst" "I") (List.mem_of_getElem? (i := 2) rfl)
  have k23 := hts (.fieldLink RX1 23 "MailRoom" "queueKinds" "[I") (List.mem_of_getElem? (i := 3) rfl)
  have k26 := hts (.fieldLink RX1 26 "MailRoom" "queueValues" "[J") (List.mem_of_getElem? (i := 4) rfl)
  refine lv_aload_n hx hb dX1_enqueue_0 rfl (lv_at hl 0 rfl) ?_
  refine x_gi_qs (v := (x_qs σ)) hx hb hts inW hown hK hP (rfl) k63 dX1_enqueue_1 ?_
  refine lv_bipush (v := 40) hx hb dX1_enqueue_4 (by decide) ?_
  refine lv_icmp_lt (tgt := 11) hx hb dX1_enqueue_6 (by decide) (fun c6 => ?_) (fun c6 => ?_)
  · refine lv_aload_n hx hb dX1_enqueue_11 rfl (lv_at hl 0 rfl) ?_
    refine x_gi_qf (v := (x_qf σ)) hx hb hts inW hown hK hP (rfl) k87 dX1_enqueue_12 ?_
    refine lv_aload_n hx hb dX1_enqueue_15 rfl (lv_at hl 0 rfl) ?_
    refine x_gi_qs (v := (x_qs σ)) hx hb hts inW hown hK hP (rfl) k63 dX1_enqueue_16 ?_
    refine lv_iadd hx hb dX1_enqueue_19 ?_
    refine lv_bipush (v := 40) hx hb dX1_enqueue_20 (by decide) ?_
    refine lv_irem hx hb dX1_enqueue_22 (by decide) ?_
    refine lv_istore (lv' := [(4, .int (((x_qf σ) + (x_qs σ)) - ((x_qf σ) + (x_qs σ)) / 40 * 40)), (0, .ref (O 0)), (1, .int k), (2, .long v)]) hx hb dX1_enqueue_23 hl (by decide) rfl (fun ls hl => ?_)
    refine lv_iload hx hb dX1_enqueue_25 (lv_at hl 0 rfl) ?_
    refine lv_if_ge (tgt := 32) hx hb dX1_enqueue_27 (by decide) (fun c27 => ?_) (fun c27 => ?_)
    · refine lv_aload_n hx hb dX1_enqueue_32 rfl (lv_at hl 1 rfl) ?_
      refine x_ga_4 hx hb hts inW hown hK hP k23 dX1_enqueue_33 ?_
      refine lv_iload hx hb dX1_enqueue_36 (lv_at hl 0 rfl) ?_
      refine lv_iload_n hx hb dX1_enqueue_38 rfl (lv_at hl 2 rfl) ?_
      refine x_st_qk (f := (x_qk σ)) (i := (((x_qf σ) + (x_qs σ)) - ((x_qf σ) + (x_qs σ)) / 40 * 40)) hx hb hK hP hD hS (rfl) (x_rem40 (by assumption)) dX1_enqueue_39 (fun H locs hP hD hS => ?_)
      refine lv_aload_n hx hb dX1_enqueue_40 rfl (lv_at hl 1 rfl) ?_
      refine x_ga_5 hx hb hts inW hown hK hP k26 dX1_enqueue_41 ?_
      refine lv_iload hx hb dX1_enqueue_44 (lv_at hl 0 rfl) ?_
      refine lv_lload_n hx hb dX1_enqueue_46 rfl (lv_at hl 3 rfl) ?_
      refine x_st_qv (f := (x_qv σ)) (i := (((x_qf σ) + (x_qs σ)) - ((x_qf σ) + (x_qs σ)) / 40 * 40)) hx hb hK hP hD hS (xr_qv_qk _ _) (x_rem40 (by assumption)) dX1_enqueue_47 (fun H locs hP hD hS => ?_)
      refine lv_aload_n hx hb dX1_enqueue_48 rfl (lv_at hl 1 rfl) ?_
      refine lv_dup hx hb dX1_enqueue_49 rfl ?_
      refine x_gi_qs (v := (x_qs σ)) hx hb hts inW hown hK hP ((xr_qs_qv _ _).trans (xr_qs_qk _ _)) k63 dX1_enqueue_50 ?_
      refine lv_iconst (v := 1) hx hb dX1_enqueue_53 (by decide) ?_
      refine lv_iadd hx hb dX1_enqueue_54 ?_
      refine x_pi_qs hx hb hts inW hown hK hP hD hS k63 dX1_enqueue_55 (fun H locs hP hD hS => ?_)
      refine lv_iconst (v := 0) hx hb dX1_enqueue_58 (by decide) ?_
      exact z_reti hx hb hr hlocks rfl hK hP hD hS ((if_pos c6).trans ((if_pos c27).trans (rfl))) dX1_enqueue_59
    · refine lv_iconst (v := 5) hx hb dX1_enqueue_30 (by decide) ?_
      exact z_reti hx hb hr hlocks rfl hK hP hD hS ((if_pos c6).trans ((if_neg c27).trans (rfl))) dX1_enqueue_31
  · refine lv_iconst (v := 5) hx hb dX1_enqueue_9 (by decide) ?_
    exact z_reti hx hb hr hlocks rfl hK hP hD hS ((if_neg c6).trans (rfl)) dX1_enqueue_10
noncomputable def xf_noteFailed  (k : Int32) (v : Int64) (f : Int32) (σ : SX) : SX := if (x_fl σ) < 0 then (xs_fl σ ((x_fl σ) + 1)) else (if 30 ≤ (x_fl σ) then (xs_fl σ ((x_fl σ) + 1)) else (xs_fv (xs_fn (xs_fk (xs_fl σ ((x_fl σ) + 1)) (upd (x_fk σ) ((x_fl σ).toNatClampNeg) k)) (upd (x_fn σ) ((x_fl σ).toNatClampNeg) f)) (vp_updL (x_fv σ) ((x_fl σ).toNatClampNeg) v)))
set_option maxRecDepth 100000 in
set_option maxHeartbeats 4000000 in
theorem cx_noteFailed (l : Launch) (D : va_G) (O : Nat → Nat) (K : Nat → ClassId) (ad : Nat → Nat) (k : Int32) (v : Int64) (f : Int32) (σ : SX)  : cV l yX1_noteFailed wsX1_noteFailed { frames := 0, cells := 0, slots := 0, locals := 0 } 0 0 D (xT K) (xW O K ad) σ [.ref (O 0), .int k, .long v, .int f] (xf_noteFailed k v f σ) := by
  intro sz
  refine z_start (cc := cX1_noteFailed) (maxL := 6) (ret := none) (Qc := fun A => va_Qv (fun u9 => u9 = (xf_noteFailed k v f σ)) (zB D (xT K) (xW O K ad) A) A) sz (by decide) rfl (Nat.le_of_ble_eq_true rfl) ?_
  intro p e s m below meth c A X hA hK hP hD hS ls hl
  obtain ⟨hx, hb, hr, hml, hts, hown, hlocks, hnm⟩ := X
  have hown : s.vm.findClass RX1 = some m.cls := hown
  have hl : lv_has ls 6 [(0, .ref (O 0)), (1, .int k), (2, .long v), (4, .int f)] := hl
  have inW : ∀ w ∈ wsX10, w ∈ wsX1_noteFailed := fun w h => List.mem_cons_of_mem _ (List.mem_append_right _ h)
  have XX : CallFix p m c cX1_noteFailed 6 s _ wsX1_noteFailed RX1 := ⟨hx, hb, hml, hown, hts⟩
  have k84 := hts (.fieldLink RX1 84 "MailRoom" "failures" "I") (List.mem_of_getElem? (i := 1) rfl)
  have k29 := hts (.fieldLink RX1 29 "MailRoom" "failedKinds" "[I") (List.mem_of_getElem? (i := 2) rfl)
  have k32 := hts (.fieldLink RX1 32 "MailRoom" "failedNumbers" "[I") (List.mem_of_getElem? (i := 3) rfl)
  have k35 := hts (.fieldLink RX1 35 "MailRoom" "failedValues" "[J") (List.mem_of_getElem? (i := 4) rfl)
  refine lv_aload_n hx hb dX1_noteFailed_0 rfl (lv_at hl 0 rfl) ?_
  refine x_gi_fl (v := (x_fl σ)) hx hb hts inW hown hK hP (rfl) k84 dX1_noteFailed_1 ?_
  refine lv_istore (lv' := [(5, .int (x_fl σ)), (0, .ref (O 0)), (1, .int k), (2, .long v), (4, .int f)]) hx hb dX1_noteFailed_4 hl (by decide) rfl (fun ls hl => ?_)
  refine lv_aload_n hx hb dX1_noteFailed_6 rfl (lv_at hl 1 rfl) ?_
  refine lv_dup hx hb dX1_noteFailed_7 rfl ?_
  refine x_gi_fl (v := (x_fl σ)) hx hb hts inW hown hK hP (rfl) k84 dX1_noteFailed_8 ?_
  refine lv_iconst (v := 1) hx hb dX1_noteFailed_11 (by decide) ?_
  refine lv_iadd hx hb dX1_noteFailed_12 ?_
  refine x_pi_fl hx hb hts inW hown hK hP hD hS k84 dX1_noteFailed_13 (fun H locs hP hD hS => ?_)
  refine lv_iload hx hb dX1_noteFailed_16 (lv_at hl 0 rfl) ?_
  refine lv_if_lt (tgt := 53) hx hb dX1_noteFailed_18 (by decide) (fun c18 => ?_) (fun c18 => ?_)
  · exact z_retv hx hb hr hlocks hK hP hD hS ((if_pos c18).trans (rfl)) dX1_noteFailed_53
  · refine lv_iload hx hb dX1_noteFailed_21 (lv_at hl 0 rfl) ?_
    refine lv_bipush (v := 30) hx hb dX1_noteFailed_23 (by decide) ?_
    refine lv_icmp_ge (tgt := 53) hx hb dX1_noteFailed_25 (by decide) (fun c25 => ?_) (fun c25 => ?_)
    · exact z_retv hx hb hr hlocks hK hP hD hS ((if_neg c18).trans ((if_pos c25).trans (rfl))) dX1_noteFailed_53
    · refine lv_aload_n hx hb dX1_noteFailed_28 rfl (lv_at hl 1 rfl) ?_
      refine x_ga_6 hx hb hts inW hown hK hP k29 dX1_noteFailed_29 ?_
      refine lv_iload hx hb dX1_noteFailed_32 (lv_at hl 0 rfl) ?_
      refine lv_iload_n hx hb dX1_noteFailed_34 rfl (lv_at hl 2 rfl) ?_
      refine x_st_fk (f := (x_fk σ)) (i := (x_fl σ)) hx hb hK hP hD hS (xr_fk_fl _ _) (x_lt30 (by assumption) (by assumption)) dX1_noteFailed_35 (fun H locs hP hD hS => ?_)
      refine lv_aload_n hx hb dX1_noteFailed_36 rfl (lv_at hl 1 rfl) ?_
      refine x_ga_7 hx hb hts inW hown hK hP k32 dX1_noteFailed_37 ?_
      refine lv_iload hx hb dX1_noteFailed_40 (lv_at hl 0 rfl) ?_
      refine lv_iload hx hb dX1_noteFailed_42 (lv_at hl 4 rfl) ?_
      refine x_st_fn (f := (x_fn σ)) (i := (x_fl σ)) hx hb hK hP hD hS ((xr_fn_fk _ _).trans (xr_fn_fl _ _)) (x_lt30 (by assumption) (by assumption)) dX1_noteFailed_44 (fun H locs hP hD hS => ?_)
      refine lv_aload_n hx hb dX1_noteFailed_45 rfl (lv_at hl 1 rfl) ?_
      refine x_ga_8 hx hb hts inW hown hK hP k35 dX1_noteFailed_46 ?_
      refine lv_iload hx hb dX1_noteFailed_49 (lv_at hl 0 rfl) ?_
      refine lv_lload_n hx hb dX1_noteFailed_51 rfl (lv_at hl 3 rfl) ?_
      refine x_st_fv (f := (x_fv σ)) (i := (x_fl σ)) hx hb hK hP hD hS ((xr_fv_fn _ _).trans ((xr_fv_fk _ _).trans (xr_fv_fl _ _))) (x_lt30 (by assumption) (by assumption)) dX1_noteFailed_52 (fun H locs hP hD hS => ?_)
      exact z_retv hx hb hr hlocks hK hP hD hS ((if_neg c18).trans ((if_neg c25).trans (rfl))) dX1_noteFailed_53
noncomputable def xf_drop  (k : Int32) (σ : SX) : Int32 × SX := if (xf_isKind k) = 0 then ((-2), σ) else (if ((x_hd σ) k.toNatClampNeg) = none then (0, xs_hd σ (va_up (x_hd σ) k.toNatClampNeg none)) else (1, xs_hd σ (va_up (x_hd σ) k.toNatClampNeg none)))
set_option maxRecDepth 100000 in
set_option maxHeartbeats 4000000 in
theorem cx_drop (l : Launch) (D : va_G) (O : Nat → Nat) (K : Nat → ClassId) (ad : Nat → Nat) (k : Int32) (σ : SX)  : cI l yX1_drop wsX1_drop { frames := 1, cells := 0, slots := 0, locals := 100 } 0 0 D (xT K) (xW O K ad) σ [.ref (O 0), .int k] (xf_drop k σ) := by
  intro sz
  refine z_start (cc := cX1_drop) (maxL := 3) (ret := (some .int)) (Qc := fun A => va_Qi (fun r9 u9 => r9 = (xf_drop k σ).1 ∧ u9 = (xf_drop k σ).2) (zB D (xT K) (xW O K ad) A) A) sz (by decide) rfl (Nat.le_of_ble_eq_true rfl) ?_
  intro p e s m below meth c A X hA hK hP hD hS ls hl
  obtain ⟨hx, hb, hr, hml, hts, hown, hlocks, hnm⟩ := X
  have hown : s.vm.findClass RX1 = some m.cls := hown
  have hl : lv_has ls 3 [(0, .ref (O 0)), (1, .int k)] := hl
  have inW : ∀ w ∈ wsX10, w ∈ wsX1_drop := fun w h => List.mem_cons_of_mem _ (List.mem_append_right _ h)
  have XX : CallFix p m c cX1_drop 3 s _ wsX1_drop RX1 := ⟨hx, hb, hml, hown, hts⟩
  have k19 := hts (.fieldLink RX1 19 "MailRoom" "handlers" "[LMailRoom$Handler;") (List.mem_of_getElem? (i := 1) rfl)
  refine lv_iload_n hx hb dX1_drop_0 rfl (lv_at hl 1 rfl) ?_
  refine z_calls (As := [.int k]) (rest := []) XX (cx_isKind l k) (va_cwS 1 hts gX1_drop_X1_isKind rfl rfl rfl qX1_isKind ⟨by decide, by decide⟩) rfl hl.1 rfl (Nat.le_of_ble_eq_true rfl) dX1_drop_1 ⟨Nat.zero_le _, Nat.zero_le _⟩ ?_
  refine lv_if_ne (tgt := 10) hx hb dX1_drop_4 (by decide) (fun c4 => ?_) (fun c4 => ?_)
  · refine lv_aload_n hx hb dX1_drop_10 rfl (lv_at hl 0 rfl) ?_
    refine x_ga_3 hx hb hts inW hown hK hP k19 dX1_drop_11 ?_
    refine lv_iload_n hx hb dX1_drop_14 rfl (lv_at hl 1 rfl) ?_
    refine x_aldH hx hb hK hP (i := k) (xkind_in (by assumption)) dX1_drop_15 ?_
    refine z_ifnull (tgt := 23) hx hb dX1_drop_16 (by decide) (fun c16 => ?_) (fun c16 => ?_)
    · refine lv_iconst (v := 0) hx hb dX1_drop_23 (by decide) ?_
      refine lv_istore_n (lv' := [(2, .int 0), (0, .ref (O 0)), (1, .int k)]) hx hb dX1_drop_24 rfl hl (by decide) rfl (fun ls hl => ?_)
      refine lv_aload_n hx hb dX1_drop_25 rfl (lv_at hl 1 rfl) ?_
      refine x_ga_3 hx hb hts inW hown hK hP k19 dX1_drop_26 ?_
      refine lv_iload_n hx hb dX1_drop_29 rfl (lv_at hl 2 rfl) ?_
      refine z_null ad hx hb dX1_drop_30 ?_
      refine x_astH hx hb hK hP hD hS (i := k) (fun j h => by cases h) (xkind_in (by assumption)) dX1_drop_31 (fun H locs hP hD hS => ?_)
      refine lv_iload_n hx hb dX1_drop_32 rfl (lv_at hl 0 rfl) ?_
      exact z_reti hx hb hr hlocks rfl hK hP hD hS ((if_neg c4).trans ((if_pos c16).trans (rfl))) dX1_drop_33
    · refine lv_iconst (v := 1) hx hb dX1_drop_19 (by decide) ?_
      refine lv_goto (tgt := 24) hx hb dX1_drop_20 (by decide) ?_
      refine lv_istore_n (lv' := [(2, .int 1), (0, .ref (O 0)), (1, .int k)]) hx hb dX1_drop_24 rfl hl (by decide) rfl (fun ls hl => ?_)
      refine lv_aload_n hx hb dX1_drop_25 rfl (lv_at hl 1 rfl) ?_
      refine x_ga_3 hx hb hts inW hown hK hP k19 dX1_drop_26 ?_
      refine lv_iload_n hx hb dX1_drop_29 rfl (lv_at hl 2 rfl) ?_
      refine z_null ad hx hb dX1_drop_30 ?_
      refine x_astH hx hb hK hP hD hS (i := k) (fun j h => by cases h) (xkind_in (by assumption)) dX1_drop_31 (fun H locs hP hD hS => ?_)
      refine lv_iload_n hx hb dX1_drop_32 rfl (lv_at hl 0 rfl) ?_
      exact z_reti hx hb hr hlocks rfl hK hP hD hS ((if_neg c4).trans ((if_neg c16).trans (rfl))) dX1_drop_33
  · refine lv_bipush (v := (-2)) hx hb dX1_drop_7 (by decide) ?_
    exact z_reti hx hb hr hlocks rfl hK hP hD hS ((if_pos c4).trans (rfl)) dX1_drop_9
noncomputable def xf_post  (k : Int32) (v : Int64) (σ : SX) : Int32 × SX := if (xf_isKind k) = 0 then ((-2), σ) else (if (xf_enqueue k v σ).1 = 0 then ((x_qs ((xf_enqueue k v σ).2)), (xf_enqueue k v σ).2) else ((-4), (xf_enqueue k v σ).2))
set_option maxRecDepth 100000 in
set_option maxHeartbeats 4000000 in
theorem cx_post (l : Launch) (D : va_G) (O : Nat → Nat) (K : Nat → ClassId) (ad : Nat → Nat) (k : Int32) (v : Int64) (σ : SX)  : cI l yX1_post wsX1_post { frames := 1, cells := 0, slots := 0, locals := 100 } 0 0 D (xT K) (xW O K ad) σ [.ref (O 0), .int k, .long v] (xf_post k v σ) := by
  intro sz
  refine z_start (cc := cX1_post) (maxL := 4) (ret := (some .int)) (Qc := fun A => va_Qi (fun r9 u9 => r9 = (xf_post k v σ).1 ∧ u9 = (xf_post k v σ).2) (zB D (xT K) (xW O K ad) A) A) sz (by decide) rfl (Nat.le_of_ble_eq_true rfl) ?_
  intro p e s m below meth c A X hA hK hP hD hS ls hl
  obtain ⟨hx, hb, hr, hml, hts, hown, hlocks, hnm⟩ := X
  have hown : s.vm.findClass RX1 = some m.cls := hown
  have hl : lv_has ls 4 [(0, .ref (O 0)), (1, .int k), (2, .long v)] := hl
  have inW : ∀ w ∈ wsX10, w ∈ wsX1_post := fun w h => List.mem_cons_of_mem _ (List.mem_append_right _ h)
  have XX : CallFix p m c cX1_post 4 s _ wsX1_post RX1 := ⟨hx, hb, hml, hown, hts⟩
  have k63 := hts (.fieldLink RX1 63 "MailRoom" "queueSize" "I") (List.mem_of_getElem? (i := 1) rfl)
  refine lv_iload_n hx hb dX1_post_0 rfl (lv_at hl 1 rfl) ?_
  refine z_calls (As := [.int k]) (rest := []) XX (cx_isKind l k) (va_cwS 1 hts gX1_post_X1_isKind rfl rfl rfl qX1_isKind ⟨by decide, by decide⟩) rfl hl.1 rfl (Nat.le_of_ble_eq_true rfl) dX1_post_1 ⟨Nat.zero_le _, Nat.zero_le _⟩ ?_
  refine lv_if_ne (tgt := 10) hx hb dX1_post_4 (by decide) (fun c4 => ?_) (fun c4 => ?_)
  · refine lv_aload_n hx hb dX1_post_10 rfl (lv_at hl 0 rfl) ?_
    refine lv_iload_n hx hb dX1_post_11 rfl (lv_at hl 1 rfl) ?_
    refine lv_lload_n hx hb dX1_post_12 rfl (lv_at hl 2 rfl) ?_
    refine z_calli (As := [.int k, .long v]) (rest := []) XX (cx_enqueue l D O K ad k v σ) (cwV 2 hts gX1_post_X1_enqueue rfl rfl rfl qX1_enqueue ⟨by decide, by decide⟩) (va_recv hK hP (ci := 1) (q0 := 0) rfl rfl) hK hP hD hS hA rfl hl.1 rfl (Nat.le_of_ble_eq_true rfl) dX1_post_13 ⟨Nat.zero_le _, Nat.zero_le _⟩ (fun H locs hP hD hS => ?_)
    refine lv_if_ne (tgt := 26) hx hb dX1_post_16 (by decide) (fun c16 => ?_) (fun c16 => ?_)
    · refine lv_bipush (v := (-4)) hx hb dX1_post_26 (by decide) ?_
      exact z_reti hx hb hr hlocks rfl hK hP hD hS ((if_neg c4).trans ((if_neg c16).trans (rfl))) dX1_post_28
    · refine lv_aload_n hx hb dX1_post_19 rfl (lv_at hl 0 rfl) ?_
      refine x_gi_qs (v := (x_qs ((xf_enqueue k v σ).2))) hx hb hts inW hown hK hP (rfl) k63 dX1_post_20 ?_
      refine lv_goto (tgt := 28) hx hb dX1_post_23 (by decide) ?_
      exact z_reti hx hb hr hlocks rfl hK hP hD hS ((if_neg c4).trans ((if_pos c16).trans (rfl))) dX1_post_28
  · refine lv_bipush (v := (-2)) hx hb dX1_post_7 (by decide) ?_
    exact z_reti hx hb hr hlocks rfl hK hP hD hS ((if_pos c4).trans (rfl)) dX1_post_9
