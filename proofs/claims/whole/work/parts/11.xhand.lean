noncomputable def xf_share  (j : Nat) (v : Int64) (σ : SX) : Int32 × SX := if (lg_cmp (h_c ((x_tab σ) j)) 0) = 0 then (2, σ) else (if (xf_keep (h_a ((x_tab σ) j)) (v / (h_c ((x_tab σ) j))) σ).1 = 0 then (xf_keep (h_b ((x_tab ((xf_keep (h_a ((x_tab σ) j)) (v / (h_c ((x_tab σ) j))) σ).2)) j)) (v - v / (h_c ((x_tab ((xf_keep (h_a ((x_tab σ) j)) (v / (h_c ((x_tab σ) j))) σ).2)) j)) * (h_c ((x_tab ((xf_keep (h_a ((x_tab σ) j)) (v / (h_c ((x_tab σ) j))) σ).2)) j))) ((xf_keep (h_a ((x_tab σ) j)) (v / (h_c ((x_tab σ) j))) σ).2)) else (xf_keep (h_a ((x_tab σ) j)) (v / (h_c ((x_tab σ) j))) σ))
set_option maxRecDepth 100000 in
set_option maxHeartbeats 4000000 in
theorem cx_share (l : Launch) (D : va_G) (O : Nat → Nat) (K : Nat → ClassId) (ad : Nat → Nat) (j : Nat) (v : Int64) (σ : SX) (hj : j < x_n σ) : cI l yX1_share wsX1_share { frames := 2, cells := 0, slots := 0, locals := 200 } 0 0 D (xT K) (xW O K ad) σ [.ref (O 0), .ref (ad j), .long v] (xf_share j v σ) := by
  intro sz
  refine z_start (cc := cX1_share) (maxL := 5) (ret := (some .int)) (Qc := fun A => va_Qi (fun r9 u9 => r9 = (xf_share j v σ).1 ∧ u9 = (xf_share j v σ).2) (zB D (xT K) (xW O K ad) A) A) sz (by decide) rfl (Nat.le_of_ble_eq_true rfl) ?_
  intro p e s m below meth c A X hA hK hP hD hS ls hl
  obtain ⟨hx, hb, hr, hml, hts, hown, hlocks, hnm⟩ := X
  have hown : s.vm.findClass RX1 = some m.cls := hown
  have hl : lv_has ls 5 [(0, .ref (O 0)), (1, .ref (ad j)), (2, .long v)] := hl
  have inW : ∀ w ∈ wsX10, w ∈ wsX1_share := fun w h => List.mem_cons_of_mem _ (List.mem_append_right _ h)
  have inX0 : ∀ w ∈ wsX00, w ∈ wsX1_share := fun w h => List.mem_cons_of_mem _ (List.mem_append_left _ (List.mem_append_right _ h))
  have XX : CallFix p m c cX1_share 5 s _ wsX1_share RX1 := ⟨hx, hb, hml, hown, hts⟩
  have k113 := hts (.fieldLink RX1 113 "MailRoom$Handler" "c" "J") (List.mem_of_getElem? (i := 1) rfl)
  have k107 := hts (.fieldLink RX1 107 "MailRoom$Handler" "a" "I") (List.mem_of_getElem? (i := 2) rfl)
  have k152 := hts (.fieldLink RX1 152 "MailRoom$Handler" "b" "I") (List.mem_of_getElem? (i := 3) rfl)
  refine lv_aload_n hx hb dX1_share_0 rfl (lv_at hl 1 rfl) ?_
  refine x_getH (v := .long (h_c ((x_tab σ) j))) (T := (x_tab σ)) hx hb hts inX0 hown hK hP (rfl) (hj) 4 (by decide) k113 rfl dX1_share_1 ?_
  refine lv_lconst (v := 0) hx hb dX1_share_4 (by decide) ?_
  refine W.lcmp hx hb dX1_share_5 ?_
  refine lv_if_ne (tgt := 11) hx hb dX1_share_6 (by decide) (fun c6 => ?_) (fun c6 => ?_)
  · refine lv_aload_n hx hb dX1_share_11 rfl (lv_at hl 0 rfl) ?_
    refine lv_aload_n hx hb dX1_share_12 rfl (lv_at hl 1 rfl) ?_
    refine x_getH (v := .int (h_a ((x_tab σ) j))) (T := (x_tab σ)) hx hb hts inX0 hown hK hP (rfl) (hj) 2 (by decide) k107 rfl dX1_share_13 ?_
    refine lv_lload_n hx hb dX1_share_16 rfl (lv_at hl 2 rfl) ?_
    refine lv_aload_n hx hb dX1_share_17 rfl (lv_at hl 1 rfl) ?_
    refine x_getH (v := .long (h_c ((x_tab σ) j))) (T := (x_tab σ)) hx hb hts inX0 hown hK hP (rfl) (hj) 4 (by decide) k113 rfl dX1_share_18 ?_
    refine lv_ldiv hx hb dX1_share_21 (z_l0 c6) ?_
    refine z_calli (As := [.int (h_a ((x_tab σ) j)), .long (v / (h_c ((x_tab σ) j)))]) (rest := []) XX (cx_keep l D O K ad (h_a ((x_tab σ) j)) (v / (h_c ((x_tab σ) j))) σ) (cwV 2 hts gX1_share_X1_keep rfl rfl rfl qX1_keep ⟨by decide, by decide⟩) (va_recv hK hP (ci := 1) (q0 := 0) rfl rfl) hK hP hD hS hA rfl hl.1 rfl (Nat.le_of_ble_eq_true rfl) dX1_share_22 ⟨Nat.zero_le _, Nat.zero_le _⟩ (fun H locs hP hD hS => ?_)
    have hp22 : xpres σ (xf_keep (h_a ((x_tab σ) j)) (v / (h_c ((x_tab σ) j))) σ).2 := xp_keep ..
    have hj22 : j < x_n (xf_keep (h_a ((x_tab σ) j)) (v / (h_c ((x_tab σ) j))) σ).2 := by rw [hp22.1]; exact hj
    refine lv_istore (lv' := [(4, .int ((xf_keep (h_a ((x_tab σ) j)) (v / (h_c ((x_tab σ) j))) σ).1)), (0, .ref (O 0)), (1, .ref (ad j)), (2, .long v)]) hx hb dX1_share_25 hl (by decide) rfl (fun ls hl => ?_)
    refine lv_iload hx hb dX1_share_27 (lv_at hl 0 rfl) ?_
    refine lv_if_ne (tgt := 49) hx hb dX1_share_29 (by decide) (fun c29 => ?_) (fun c29 => ?_)
    · refine lv_iload hx hb dX1_share_49 (lv_at hl 0 rfl) ?_
      exact z_reti hx hb hr hlocks rfl hK hP hD hS ((if_neg c6).trans ((if_neg c29).trans (z_eta _))) dX1_share_51
    · refine lv_aload_n hx hb dX1_share_32 rfl (lv_at hl 1 rfl) ?_
      refine lv_aload_n hx hb dX1_share_33 rfl (lv_at hl 2 rfl) ?_
      refine x_getH (v := .int (h_b ((x_tab ((xf_keep (h_a ((x_tab σ) j)) (v / (h_c ((x_tab σ) j))) σ).2)) j))) (T := (x_tab ((xf_keep (h_a ((x_tab σ) j)) (v / (h_c ((x_tab σ) j))) σ).2))) hx hb hts inX0 hown hK hP (rfl) (hj22) 3 (by decide) k152 rfl dX1_share_34 ?_
      refine lv_lload_n hx hb dX1_share_37 rfl (lv_at hl 3 rfl) ?_
      refine lv_aload_n hx hb dX1_share_38 rfl (lv_at hl 2 rfl) ?_
      refine x_getH (v := .long (h_c ((x_tab ((xf_keep (h_a ((x_tab σ) j)) (v / (h_c ((x_tab σ) j))) σ).2)) j))) (T := (x_tab ((xf_keep (h_a ((x_tab σ) j)) (v / (h_c ((x_tab σ) j))) σ).2))) hx hb hts inX0 hown hK hP (rfl) (hj22) 4 (by decide) k113 rfl dX1_share_39 ?_
      refine lv_lrem hx hb dX1_share_42 (by rw [xt_keep]; exact z_l0 c6) ?_
      refine z_calli (As := [.int (h_b ((x_tab ((xf_keep (h_a ((x_tab σ) j)) (v / (h_c ((x_tab σ) j))) σ).2)) j)), .long (v - v / (h_c ((x_tab ((xf_keep (h_a ((x_tab σ) j)) (v / (h_c ((x_tab σ) j))) σ).2)) j)) * (h_c ((x_tab ((xf_keep (h_a ((x_tab σ) j)) (v / (h_c ((x_tab σ) j))) σ).2)) j)))]) (rest := []) XX (cx_keep l D O K ad (h_b ((x_tab ((xf_keep (h_a ((x_tab σ) j)) (v / (h_c ((x_tab σ) j))) σ).2)) j)) (v - v / (h_c ((x_tab ((xf_keep (h_a ((x_tab σ) j)) (v / (h_c ((x_tab σ) j))) σ).2)) j)) * (h_c ((x_tab ((xf_keep (h_a ((x_tab σ) j)) (v / (h_c ((x_tab σ) j))) σ).2)) j))) ((xf_keep (h_a ((x_tab σ) j)) (v / (h_c ((x_tab σ) j))) σ).2)) (cwV 2 hts gX1_share_X1_keep rfl rfl rfl qX1_keep ⟨by decide, by decide⟩) (va_recv hK hP (ci := 1) (q0 := 0) rfl rfl) hK hP hD hS hA rfl hl.1 rfl (Nat.le_of_ble_eq_true rfl) dX1_share_43 ⟨Nat.zero_le _, Nat.zero_le _⟩ (fun H locs hP hD hS => ?_)
      have hp43 : xpres ((xf_keep (h_a ((x_tab σ) j)) (v / (h_c ((x_tab σ) j))) σ).2) (xf_keep (h_b ((x_tab ((xf_keep (h_a ((x_tab σ) j)) (v / (h_c ((x_tab σ) j))) σ).2)) j)) (v - v / (h_c ((x_tab ((xf_keep (h_a ((x_tab σ) j)) (v / (h_c ((x_tab σ) j))) σ).2)) j)) * (h_c ((x_tab ((xf_keep (h_a ((x_tab σ) j)) (v / (h_c ((x_tab σ) j))) σ).2)) j))) ((xf_keep (h_a ((x_tab σ) j)) (v / (h_c ((x_tab σ) j))) σ).2)).2 := xp_keep ..
      have hj43 : j < x_n (xf_keep (h_b ((x_tab ((xf_keep (h_a ((x_tab σ) j)) (v / (h_c ((x_tab σ) j))) σ).2)) j)) (v - v / (h_c ((x_tab ((xf_keep (h_a ((x_tab σ) j)) (v / (h_c ((x_tab σ) j))) σ).2)) j)) * (h_c ((x_tab ((xf_keep (h_a ((x_tab σ) j)) (v / (h_c ((x_tab σ) j))) σ).2)) j))) ((xf_keep (h_a ((x_tab σ) j)) (v / (h_c ((x_tab σ) j))) σ).2)).2 := by rw [hp43.1]; exact hj22
      refine lv_goto (tgt := 51) hx hb dX1_share_46 (by decide) ?_
      exact z_reti hx hb hr hlocks rfl hK hP hD hS ((if_neg c6).trans ((if_pos c29).trans (z_eta _))) dX1_share_51
  · refine lv_iconst (v := 2) hx hb dX1_share_9 (by decide) ?_
    exact z_reti hx hb hr hlocks rfl hK hP hD hS ((if_pos c6).trans (rfl)) dX1_share_10
noncomputable def xf_keepAndSend  (j : Nat) (v : Int64) (σ : SX) : Int32 × SX := if (xf_keep (h_a ((x_tab σ) j)) v σ).1 = 0 then (if (lg_cmp v 1) ≤ 0 then (xf_keep (h_a ((x_tab σ) j)) v σ) else (xf_enqueue (h_b ((x_tab ((xf_keep (h_a ((x_tab σ) j)) v σ).2)) j)) (v + (h_c ((x_tab ((xf_keep (h_a ((x_tab σ) j)) v σ).2)) j))) ((xf_keep (h_a ((x_tab σ) j)) v σ).2))) else (xf_keep (h_a ((x_tab σ) j)) v σ)
set_option maxRecDepth 100000 in
set_option maxHeartbeats 4000000 in
theorem cx_keepAndSend (l : Launch) (D : va_G) (O : Nat → Nat) (K : Nat → ClassId) (ad : Nat → Nat) (j : Nat) (v : Int64) (σ : SX) (hj : j < x_n σ) : cI l yX1_keepAndSend wsX1_keepAndSend { frames := 2, cells := 0, slots := 0, locals := 200 } 0 0 D (xT K) (xW O K ad) σ [.ref (O 0), .ref (ad j), .long v] (xf_keepAndSend j v σ) := by
  intro sz
  refine z_start (cc := cX1_keepAndSend) (maxL := 5) (ret := (some .int)) (Qc := fun A => va_Qi (fun r9 u9 => r9 = (xf_keepAndSend j v σ).1 ∧ u9 = (xf_keepAndSend j v σ).2) (zB D (xT K) (xW O K ad) A) A) sz (by decide) rfl (Nat.le_of_ble_eq_true rfl) ?_
  intro p e s m below meth c A X hA hK hP hD hS ls hl
  obtain ⟨hx, hb, hr, hml, hts, hown, hlocks, hnm⟩ := X
  have hown : s.vm.findClass RX1 = some m.cls := hown
  have hl : lv_has ls 5 [(0, .ref (O 0)), (1, .ref (ad j)), (2, .long v)] := hl
  have inW : ∀ w ∈ wsX10, w ∈ wsX1_keepAndSend := fun w h => List.mem_cons_of_mem _ (List.mem_append_right _ h)
  have inX0 : ∀ w ∈ wsX00, w ∈ wsX1_keepAndSend := fun w h => List.mem_cons_of_mem _ (List.mem_append_left _ (List.mem_append_right _ h))
  have XX : CallFix p m c cX1_keepAndSend 5 s _ wsX1_keepAndSend RX1 := ⟨hx, hb, hml, hown, hts⟩
  have k107 := hts (.fieldLink RX1 107 "MailRoom$Handler" "a" "I") (List.mem_of_getElem? (i := 1) rfl)
  have k152 := hts (.fieldLink RX1 152 "MailRoom$Handler" "b" "I") (List.mem_of_getElem? (i := 2) rfl)
  have k113 := hts (.fieldLink RX1 113 "MailRoom$Handler" "c" "J") (List.mem_of_getElem? (i := 3) rfl)
  refine lv_aload_n hx hb dX1_keepAndSend_0 rfl (lv_at hl 0 rfl) ?_
  refine lv_aload_n hx hb dX1_keepAndSend_1 rfl (lv_at hl 1 rfl) ?_
  refine x_getH (v := .int (h_a ((x_tab σ) j))) (T := (x_tab σ)) hx hb hts inX0 hown hK hP (rfl) (hj) 2 (by decide) k107 rfl dX1_keepAndSend_2 ?_
  refine lv_lload_n hx hb dX1_keepAndSend_5 rfl (lv_at hl 2 rfl) ?_
  refine z_calli (As := [.int (h_a ((x_tab σ) j)), .long v]) (rest := []) XX (cx_keep l D O K ad (h_a ((x_tab σ) j)) v σ) (cwV 2 hts gX1_keepAndSend_X1_keep rfl rfl rfl qX1_keep ⟨by decide, by decide⟩) (va_recv hK hP (ci := 1) (q0 := 0) rfl rfl) hK hP hD hS hA rfl hl.1 rfl (Nat.le_of_ble_eq_true rfl) dX1_keepAndSend_6 ⟨Nat.zero_le _, Nat.zero_le _⟩ (fun H locs hP hD hS => ?_)
  have hp6 : xpres σ (xf_keep (h_a ((x_tab σ) j)) v σ).2 := xp_keep ..
  have hj6 : j < x_n (xf_keep (h_a ((x_tab σ) j)) v σ).2 := by rw [hp6.1]; exact hj
  refine lv_istore (lv' := [(4, .int ((xf_keep (h_a ((x_tab σ) j)) v σ).1)), (0, .ref (O 0)), (1, .ref (ad j)), (2, .long v)]) hx hb dX1_keepAndSend_9 hl (by decide) rfl (fun ls hl => ?_)
  refine lv_iload hx hb dX1_keepAndSend_11 (lv_at hl 0 rfl) ?_
  refine lv_if_ne (tgt := 39) hx hb dX1_keepAndSend_13 (by decide) (fun c13 => ?_) (fun c13 => ?_)
  · refine lv_iload hx hb dX1_keepAndSend_39 (lv_at hl 0 rfl) ?_
    exact z_reti hx hb hr hlocks rfl hK hP hD hS ((if_neg c13).trans (z_eta _)) dX1_keepAndSend_41
  · refine lv_lload_n hx hb dX1_keepAndSend_16 rfl (lv_at hl 3 rfl) ?_
    refine lv_lconst (v := 1) hx hb dX1_keepAndSend_17 (by decide) ?_
    refine W.lcmp hx hb dX1_keepAndSend_18 ?_
    refine lv_if_le (tgt := 39) hx hb dX1_keepAndSend_19 (by decide) (fun c19 => ?_) (fun c19 => ?_)
    · refine lv_iload hx hb dX1_keepAndSend_39 (lv_at hl 0 rfl) ?_
      exact z_reti hx hb hr hlocks rfl hK hP hD hS ((if_pos c13).trans ((if_pos c19).trans (z_eta _))) dX1_keepAndSend_41
    · refine lv_aload_n hx hb dX1_keepAndSend_22 rfl (lv_at hl 1 rfl) ?_
      refine lv_aload_n hx hb dX1_keepAndSend_23 rfl (lv_at hl 2 rfl) ?_
      refine x_getH (v := .int (h_b ((x_tab ((xf_keep (h_a ((x_tab σ) j)) v σ).2)) j))) (T := (x_tab ((xf_keep (h_a ((x_tab σ) j)) v σ).2))) hx hb hts inX0 hown hK hP (rfl) (hj6) 3 (by decide) k152 rfl dX1_keepAndSend_24 ?_
      refine lv_lload_n hx hb dX1_keepAndSend_27 rfl (lv_at hl 3 rfl) ?_
      refine lv_aload_n hx hb dX1_keepAndSend_28 rfl (lv_at hl 2 rfl) ?_
      refine x_getH (v := .long (h_c ((x_tab ((xf_keep (h_a ((x_tab σ) j)) v σ).2)) j))) (T := (x_tab ((xf_keep (h_a ((x_tab σ) j)) v σ).2))) hx hb hts inX0 hown hK hP (rfl) (hj6) 4 (by decide) k113 rfl dX1_keepAndSend_29 ?_
      refine lv_ladd hx hb dX1_keepAndSend_32 ?_
      refine z_calli (As := [.int (h_b ((x_tab ((xf_keep (h_a ((x_tab σ) j)) v σ).2)) j)), .long (v + (h_c ((x_tab ((xf_keep (h_a ((x_tab σ) j)) v σ).2)) j)))]) (rest := []) XX (cx_enqueue l D O K ad (h_b ((x_tab ((xf_keep (h_a ((x_tab σ) j)) v σ).2)) j)) (v + (h_c ((x_tab ((xf_keep (h_a ((x_tab σ) j)) v σ).2)) j))) ((xf_keep (h_a ((x_tab σ) j)) v σ).2)) (cwV 2 hts gX1_keepAndSend_X1_enqueue rfl rfl rfl qX1_enqueue ⟨by decide, by decide⟩) (va_recv hK hP (ci := 1) (q0 := 0) rfl rfl) hK hP hD hS hA rfl hl.1 rfl (Nat.le_of_ble_eq_true rfl) dX1_keepAndSend_33 ⟨Nat.zero_le _, Nat.zero_le _⟩ (fun H locs hP hD hS => ?_)
      have hp33 : xpres ((xf_keep (h_a ((x_tab σ) j)) v σ).2) (xf_enqueue (h_b ((x_tab ((xf_keep (h_a ((x_tab σ) j)) v σ).2)) j)) (v + (h_c ((x_tab ((xf_keep (h_a ((x_tab σ) j)) v σ).2)) j))) ((xf_keep (h_a ((x_tab σ) j)) v σ).2)).2 := xp_enqueue ..
      have hj33 : j < x_n (xf_enqueue (h_b ((x_tab ((xf_keep (h_a ((x_tab σ) j)) v σ).2)) j)) (v + (h_c ((x_tab ((xf_keep (h_a ((x_tab σ) j)) v σ).2)) j))) ((xf_keep (h_a ((x_tab σ) j)) v σ).2)).2 := by rw [hp33.1]; exact hj6
      refine lv_goto (tgt := 41) hx hb dX1_keepAndSend_36 (by decide) ?_
      exact z_reti hx hb hr hlocks rfl hK hP hD hS ((if_pos c13).trans ((if_neg c19).trans (z_eta _))) dX1_keepAndSend_41
noncomputable def xf_once  (j : Nat) (v : Int64) (σ : SX) : Int32 × SX := if (xf_keep (h_a ((x_tab σ) j)) v σ).1 = 0 then (if (xf_isKind (h_kind ((x_tab ((xf_keep (h_a ((x_tab σ) j)) v σ).2)) j))) = 0 then (xf_keep (h_a ((x_tab σ) j)) v σ) else ((xf_keep (h_a ((x_tab σ) j)) v σ).1, xs_hd ((xf_keep (h_a ((x_tab σ) j)) v σ).2) (va_up (x_hd ((xf_keep (h_a ((x_tab σ) j)) v σ).2)) ((h_kind ((x_tab ((xf_keep (h_a ((x_tab σ) j)) v σ).2)) j)).toNatClampNeg) (h_former ((x_tab ((xf_keep (h_a ((x_tab σ) j)) v σ).2)) j))))) else (xf_keep (h_a ((x_tab σ) j)) v σ)
set_option maxRecDepth 100000 in
set_option maxHeartbeats 4000000 in
theorem cx_once (l : Launch) (D : va_G) (O : Nat → Nat) (K : Nat → ClassId) (ad : Nat → Nat) (j : Nat) (v : Int64) (σ : SX) (hok : xok σ) (hj : j < x_n σ) : cI l yX1_once wsX1_once { frames := 2, cells := 0, slots := 0, locals := 200 } 0 0 D (xT K) (xW O K ad) σ [.ref (O 0), .ref (ad j), .long v] (xf_once j v σ) := by
  intro sz
  refine z_start (cc := cX1_once) (maxL := 5) (ret := (some .int)) (Qc := fun A => va_Qi (fun r9 u9 => r9 = (xf_once j v σ).1 ∧ u9 = (xf_once j v σ).2) (zB D (xT K) (xW O K ad) A) A) sz (by decide) rfl (Nat.le_of_ble_eq_true rfl) ?_
  intro p e s m below meth c A X hA hK hP hD hS ls hl
  obtain ⟨hx, hb, hr, hml, hts, hown, hlocks, hnm⟩ := X
  have hown : s.vm.findClass RX1 = some m.cls := hown
  have hl : lv_has ls 5 [(0, .ref (O 0)), (1, .ref (ad j)), (2, .long v)] := hl
  have inW : ∀ w ∈ wsX10, w ∈ wsX1_once := fun w h => List.mem_cons_of_mem _ (List.mem_append_right _ h)
  have inX0 : ∀ w ∈ wsX00, w ∈ wsX1_once := fun w h => List.mem_cons_of_mem _ (List.mem_append_left _ (List.mem_append_right _ h))
  have XX : CallFix p m c cX1_once 5 s _ wsX1_once RX1 := ⟨hx, hb, hml, hown, hts⟩
  have k107 := hts (.fieldLink RX1 107 "MailRoom$Handler" "a" "I") (List.mem_of_getElem? (i := 1) rfl)
  have k155 := hts (.fieldLink RX1 155 "MailRoom$Handler" "kind" "I") (List.mem_of_getElem? (i := 2) rfl)
  have k19 := hts (.fieldLink RX1 19 "MailRoom" "handlers" "[LMailRoom$Handler;") (List.mem_of_getElem? (i := 3) rfl)
  have k146 := hts (.fieldLink RX1 146 "MailRoom$Handler" "former" "LMailRoom$Handler;") (List.mem_of_getElem? (i := 4) rfl)
  refine lv_aload_n hx hb dX1_once_0 rfl (lv_at hl 0 rfl) ?_
  refine lv_aload_n hx hb dX1_once_1 rfl (lv_at hl 1 rfl) ?_
  refine x_getH (v := .int (h_a ((x_tab σ) j))) (T := (x_tab σ)) hx hb hts inX0 hown hK hP (rfl) (hj) 2 (by decide) k107 rfl dX1_once_2 ?_
  refine lv_lload_n hx hb dX1_once_5 rfl (lv_at hl 2 rfl) ?_
  refine z_calli (As := [.int (h_a ((x_tab σ) j)), .long v]) (rest := []) XX (cx_keep l D O K ad (h_a ((x_tab σ) j)) v σ) (cwV 2 hts gX1_once_X1_keep rfl rfl rfl qX1_keep ⟨by decide, by decide⟩) (va_recv hK hP (ci := 1) (q0 := 0) rfl rfl) hK hP hD hS hA rfl hl.1 rfl (Nat.le_of_ble_eq_true rfl) dX1_once_6 ⟨Nat.zero_le _, Nat.zero_le _⟩ (fun H locs hP hD hS => ?_)
  have hp6 : xpres σ (xf_keep (h_a ((x_tab σ) j)) v σ).2 := xp_keep ..
  have hj6 : j < x_n (xf_keep (h_a ((x_tab σ) j)) v σ).2 := by rw [hp6.1]; exact hj
  have hok6 : xok (xf_keep (h_a ((x_tab σ) j)) v σ).2 := hp6.2 (hok)
  refine lv_istore (lv' := [(4, .int ((xf_keep (h_a ((x_tab σ) j)) v σ).1)), (0, .ref (O 0)), (1, .ref (ad j)), (2, .long v)]) hx hb dX1_once_9 hl (by decide) rfl (fun ls hl => ?_)
  refine lv_iload hx hb dX1_once_11 (lv_at hl 0 rfl) ?_
  refine lv_if_ne (tgt := 39) hx hb dX1_once_13 (by decide) (fun c13 => ?_) (fun c13 => ?_)
  · refine lv_iload hx hb dX1_once_39 (lv_at hl 0 rfl) ?_
    exact z_reti hx hb hr hlocks rfl hK hP hD hS ((if_neg c13).trans (z_eta _)) dX1_once_41
  · refine lv_aload_n hx hb dX1_once_16 rfl (lv_at hl 2 rfl) ?_
    refine x_getH (v := .int (h_kind ((x_tab ((xf_keep (h_a ((x_tab σ) j)) v σ).2)) j))) (T := (x_tab ((xf_keep (h_a ((x_tab σ) j)) v σ).2))) hx hb hts inX0 hown hK hP (rfl) (hj6) 0 (by decide) k155 rfl dX1_once_17 ?_
    refine z_calls (As := [.int (h_kind ((x_tab ((xf_keep (h_a ((x_tab σ) j)) v σ).2)) j))]) (rest := []) XX (cx_isKind l (h_kind ((x_tab ((xf_keep (h_a ((x_tab σ) j)) v σ).2)) j))) (va_cwS 1 hts gX1_once_X1_isKind rfl rfl rfl qX1_isKind ⟨by decide, by decide⟩) rfl hl.1 rfl (Nat.le_of_ble_eq_true rfl) dX1_once_20 ⟨Nat.zero_le _, Nat.zero_le _⟩ ?_
    refine lv_if_eq (tgt := 39) hx hb dX1_once_23 (by decide) (fun c23 => ?_) (fun c23 => ?_)
    · refine lv_iload hx hb dX1_once_39 (lv_at hl 0 rfl) ?_
      exact z_reti hx hb hr hlocks rfl hK hP hD hS ((if_pos c13).trans ((if_pos c23).trans (z_eta _))) dX1_once_41
    · refine lv_aload_n hx hb dX1_once_26 rfl (lv_at hl 1 rfl) ?_
      refine x_ga_3 hx hb hts inW hown hK hP k19 dX1_once_27 ?_
      refine lv_aload_n hx hb dX1_once_30 rfl (lv_at hl 2 rfl) ?_
      refine x_getH (v := .int (h_kind ((x_tab ((xf_keep (h_a ((x_tab σ) j)) v σ).2)) j))) (T := (x_tab ((xf_keep (h_a ((x_tab σ) j)) v σ).2))) hx hb hts inX0 hown hK hP (rfl) (hj6) 0 (by decide) k155 rfl dX1_once_31 ?_
      refine lv_aload_n hx hb dX1_once_34 rfl (lv_at hl 2 rfl) ?_
      refine x_getH (v := va_re ad (h_former ((x_tab ((xf_keep (h_a ((x_tab σ) j)) v σ).2)) j))) (T := (x_tab ((xf_keep (h_a ((x_tab σ) j)) v σ).2))) hx hb hts inX0 hown hK hP (rfl) (hj6) 5 (by decide) k146 rfl dX1_once_35 ?_
      refine x_astH hx hb hK hP hD hS (i := (h_kind ((x_tab ((xf_keep (h_a ((x_tab σ) j)) v σ).2)) j))) (((hok6).2 _).1) (xkind_in (by assumption)) dX1_once_38 (fun H locs hP hD hS => ?_)
      refine lv_iload hx hb dX1_once_39 (lv_at hl 0 rfl) ?_
      exact z_reti hx hb hr hlocks rfl hK hP hD hS ((if_pos c13).trans ((if_neg c23).trans (rfl))) dX1_once_41
