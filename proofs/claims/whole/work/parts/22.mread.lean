noncomputable def mf_has  (k : Int32) (σ : SM) : Int32 := if (mf_isKind k) = 0 then (-2) else (if ((m_st σ) k.toNatClampNeg) < 0 then 0 else 1)
set_option maxRecDepth 100000 in
set_option maxHeartbeats 4000000 in
theorem cMM_has (l : Launch) (D : va_G) (O : Nat → Nat) (K : Nat → ClassId) (k : Int32) (σ : SM)  : cI l yX2_has wsX2_has { frames := 2, cells := 0, slots := 0, locals := 200 } 0 0 D (mT K) (mW O K) σ [.ref (O 0), .int k] ((mf_has k σ), σ) := by
  intro sz
  refine z_start (cc := cX2_has) (maxL := 2) (ret := (some .int)) (Qc := fun A => va_Qi (fun r9 u9 => r9 = ((mf_has k σ), σ).1 ∧ u9 = ((mf_has k σ), σ).2) (zB D (mT K) (mW O K) A) A) sz (by decide) rfl (Nat.le_of_ble_eq_true rfl) ?_
  intro p e s m below meth c A X hA hK hP hD hS ls hl
  obtain ⟨hx, hb, hr, hml, hts, hown, hlocks, hnm⟩ := X
  have hown : s.vm.findClass RX2 = some m.cls := hown
  have hl : lv_has ls 2 [(0, .ref (O 0)), (1, .int k)] := hl
  have inW : ∀ w ∈ wsX20, w ∈ wsX2_has := fun w h => List.mem_cons_of_mem _ (List.mem_append_right _ h)
  have XX : CallFix p m c cX2_has 2 s _ wsX2_has RX2 := ⟨hx, hb, hml, hown, hts⟩
  have k41 := hts (.fieldLink RX2 41 "MailRoomModel" "stands" "[I") (List.mem_of_getElem? (i := 1) rfl)
  refine lv_iload_n hx hb dX2_has_0 rfl (lv_at hl 1 rfl) ?_
  refine z_calls (As := [.int k]) (rest := []) XX (cMM_isKind l k) (va_cwS 1 hts gX2_has_X2_isKind rfl rfl rfl qX2_isKind ⟨by decide, by decide⟩) rfl hl.1 rfl (Nat.le_of_ble_eq_true rfl) dX2_has_1 ⟨Nat.zero_le _, Nat.zero_le _⟩ ?_
  refine lv_if_ne (tgt := 12) hx hb dX2_has_4 (by decide) (fun c4 => ?_) (fun c4 => ?_)
  · refine lv_aload_n hx hb dX2_has_12 rfl (lv_at hl 0 rfl) ?_
    refine m_ga_11 hx hb hts inW hown hK hP k41 dX2_has_13 ?_
    refine lv_iload_n hx hb dX2_has_16 rfl (lv_at hl 1 rfl) ?_
    refine m_ld_st (f := (m_st σ)) (i := k) hx hb hK hP (rfl) (mkind_in (by assumption)) dX2_has_17 ?_
    refine lv_if_lt (tgt := 25) hx hb dX2_has_18 (by decide) (fun c18 => ?_) (fun c18 => ?_)
    · refine lv_iconst (v := 0) hx hb dX2_has_25 (by decide) ?_
      exact z_reti hx hb hr hlocks rfl hK hP hD hS (congrArg (fun x => (x, σ)) ((if_neg c4).trans ((if_pos c18).trans (rfl)))) dX2_has_26
    · refine lv_iconst (v := 1) hx hb dX2_has_21 (by decide) ?_
      refine lv_goto (tgt := 26) hx hb dX2_has_22 (by decide) ?_
      exact z_reti hx hb hr hlocks rfl hK hP hD hS (congrArg (fun x => (x, σ)) ((if_neg c4).trans ((if_neg c18).trans (rfl)))) dX2_has_26
  · refine lv_bipush (v := (-2)) hx hb dX2_has_7 (by decide) ?_
    refine lv_goto (tgt := 26) hx hb dX2_has_9 (by decide) ?_
    exact z_reti hx hb hr hlocks rfl hK hP hD hS (congrArg (fun x => (x, σ)) ((if_pos c4).trans (rfl))) dX2_has_26
noncomputable def mf_sum  (b : Int32) (σ : SM) : Int64 := if (mf_isBox b) = 0 then 0 else ((m_su σ) b.toNatClampNeg)
set_option maxRecDepth 100000 in
set_option maxHeartbeats 4000000 in
theorem cMM_sum (l : Launch) (D : va_G) (O : Nat → Nat) (K : Nat → ClassId) (b : Int32) (σ : SM)  : cL l yX2_sum wsX2_sum { frames := 2, cells := 0, slots := 0, locals := 200 } 0 0 D (mT K) (mW O K) σ [.ref (O 0), .int b] ((mf_sum b σ), σ) := by
  intro sz
  refine z_start (cc := cX2_sum) (maxL := 2) (ret := (some .long)) (Qc := fun A => va_Ql (fun r9 u9 => r9 = ((mf_sum b σ), σ).1 ∧ u9 = ((mf_sum b σ), σ).2) (zB D (mT K) (mW O K) A) A) sz (by decide) rfl (Nat.le_of_ble_eq_true rfl) ?_
  intro p e s m below meth c A X hA hK hP hD hS ls hl
  obtain ⟨hx, hb, hr, hml, hts, hown, hlocks, hnm⟩ := X
  have hown : s.vm.findClass RX2 = some m.cls := hown
  have hl : lv_has ls 2 [(0, .ref (O 0)), (1, .int b)] := hl
  have inW : ∀ w ∈ wsX20, w ∈ wsX2_sum := fun w h => List.mem_cons_of_mem _ (List.mem_append_right _ h)
  have XX : CallFix p m c cX2_sum 2 s _ wsX2_sum RX2 := ⟨hx, hb, hml, hown, hts⟩
  have k7 := hts (.fieldLink RX2 7 "MailRoomModel" "sums" "[J") (List.mem_of_getElem? (i := 1) rfl)
  refine lv_iload_n hx hb dX2_sum_0 rfl (lv_at hl 1 rfl) ?_
  refine z_calls (As := [.int b]) (rest := []) XX (cMM_isBox l b) (va_cwS 1 hts gX2_sum_X2_isBox rfl rfl rfl qX2_isBox ⟨by decide, by decide⟩) rfl hl.1 rfl (Nat.le_of_ble_eq_true rfl) dX2_sum_1 ⟨Nat.zero_le _, Nat.zero_le _⟩ ?_
  refine lv_if_eq (tgt := 16) hx hb dX2_sum_4 (by decide) (fun c4 => ?_) (fun c4 => ?_)
  · refine lv_lconst (v := 0) hx hb dX2_sum_16 (by decide) ?_
    exact z_retl hx hb hr hlocks hK hP hD hS (congrArg (fun x => (x, σ)) ((if_pos c4).trans (rfl))) dX2_sum_17
  · refine lv_aload_n hx hb dX2_sum_7 rfl (lv_at hl 0 rfl) ?_
    refine m_ga_1 hx hb hts inW hown hK hP k7 dX2_sum_8 ?_
    refine lv_iload_n hx hb dX2_sum_11 rfl (lv_at hl 1 rfl) ?_
    refine m_ld_su (f := (m_su σ)) (i := b) hx hb hK hP (rfl) (mbox_in (by assumption)) dX2_sum_12 ?_
    refine lv_goto (tgt := 17) hx hb dX2_sum_13 (by decide) ?_
    exact z_retl hx hb hr hlocks hK hP hD hS (congrArg (fun x => (x, σ)) ((if_neg c4).trans (rfl))) dX2_sum_17
noncomputable def mf_counted  (b : Int32) (σ : SM) : Int32 := if (mf_isBox b) = 0 then (-2) else ((m_co σ) b.toNatClampNeg)
set_option maxRecDepth 100000 in
set_option maxHeartbeats 4000000 in
theorem cMM_counted (l : Launch) (D : va_G) (O : Nat → Nat) (K : Nat → ClassId) (b : Int32) (σ : SM)  : cI l yX2_counted wsX2_counted { frames := 2, cells := 0, slots := 0, locals := 200 } 0 0 D (mT K) (mW O K) σ [.ref (O 0), .int b] ((mf_counted b σ), σ) := by
  intro sz
  refine z_start (cc := cX2_counted) (maxL := 2) (ret := (some .int)) (Qc := fun A => va_Qi (fun r9 u9 => r9 = ((mf_counted b σ), σ).1 ∧ u9 = ((mf_counted b σ), σ).2) (zB D (mT K) (mW O K) A) A) sz (by decide) rfl (Nat.le_of_ble_eq_true rfl) ?_
  intro p e s m below meth c A X hA hK hP hD hS ls hl
  obtain ⟨hx, hb, hr, hml, hts, hown, hlocks, hnm⟩ := X
  have hown : s.vm.findClass RX2 = some m.cls := hown
  have hl : lv_has ls 2 [(0, .ref (O 0)), (1, .int b)] := hl
  have inW : ∀ w ∈ wsX20, w ∈ wsX2_counted := fun w h => List.mem_cons_of_mem _ (List.mem_append_right _ h)
  have XX : CallFix p m c cX2_counted 2 s _ wsX2_counted RX2 := ⟨hx, hb, hml, hown, hts⟩
  have k13 := hts (.fieldLink RX2 13 "MailRoomModel" "counts" "[I") (List.mem_of_getElem? (i := 1) rfl)
  refine lv_iload_n hx hb dX2_counted_0 rfl (lv_at hl 1 rfl) ?_
  refine z_calls (As := [.int b]) (rest := []) XX (cMM_isBox l b) (va_cwS 1 hts gX2_counted_X2_isBox rfl rfl rfl qX2_isBox ⟨by decide, by decide⟩) rfl hl.1 rfl (Nat.le_of_ble_eq_true rfl) dX2_counted_1 ⟨Nat.zero_le _, Nat.zero_le _⟩ ?_
  refine lv_if_eq (tgt := 16) hx hb dX2_counted_4 (by decide) (fun c4 => ?_) (fun c4 => ?_)
  · refine lv_bipush (v := (-2)) hx hb dX2_counted_16 (by decide) ?_
    exact z_reti hx hb hr hlocks rfl hK hP hD hS (congrArg (fun x => (x, σ)) ((if_pos c4).trans (rfl))) dX2_counted_18
  · refine lv_aload_n hx hb dX2_counted_7 rfl (lv_at hl 0 rfl) ?_
    refine m_ga_2 hx hb hts inW hown hK hP k13 dX2_counted_8 ?_
    refine lv_iload_n hx hb dX2_counted_11 rfl (lv_at hl 1 rfl) ?_
    refine m_ld_co (f := (m_co σ)) (i := b) hx hb hK hP (rfl) (mbox_in (by assumption)) dX2_counted_12 ?_
    refine lv_goto (tgt := 18) hx hb dX2_counted_13 (by decide) ?_
    exact z_reti hx hb hr hlocks rfl hK hP hD hS (congrArg (fun x => (x, σ)) ((if_neg c4).trans (rfl))) dX2_counted_18
noncomputable def mf_failed  (i : Int32) (what : Int32) (σ : SM) : Int32 := if (mf_in what 0 1) = 0 then (-3) else (if (mf_in i 0 ((m_kp σ) - 1)) = 0 then (-1) else (if what = 0 then ((m_kk σ) i.toNatClampNeg) else ((m_kf σ) i.toNatClampNeg)))
set_option maxRecDepth 100000 in
set_option maxHeartbeats 4000000 in
theorem cMM_failed (l : Launch) (D : va_G) (O : Nat → Nat) (K : Nat → ClassId) (i : Int32) (what : Int32) (σ : SM) (hk : ∃ n, n ≤ 30 ∧ m_kp σ = nI n) : cI l yX2_failed wsX2_failed { frames := 2, cells := 0, slots := 0, locals := 200 } 0 0 D (mT K) (mW O K) σ [.ref (O 0), .int i, .int what] ((mf_failed i what σ), σ) := by
  intro sz
  refine z_start (cc := cX2_failed) (maxL := 3) (ret := (some .int)) (Qc := fun A => va_Qi (fun r9 u9 => r9 = ((mf_failed i what σ), σ).1 ∧ u9 = ((mf_failed i what σ), σ).2) (zB D (mT K) (mW O K) A) A) sz (by decide) rfl (Nat.le_of_ble_eq_true rfl) ?_
  intro p e s m below meth c A X hA hK hP hD hS ls hl
  obtain ⟨hx, hb, hr, hml, hts, hown, hlocks, hnm⟩ := X
  have hown : s.vm.findClass RX2 = some m.cls := hown
  have hl : lv_has ls 3 [(0, .ref (O 0)), (1, .int i), (2, .int what)] := hl
  have inW : ∀ w ∈ wsX20, w ∈ wsX2_failed := fun w h => List.mem_cons_of_mem _ (List.mem_append_right _ h)
  have XX : CallFix p m c cX2_failed 3 s _ wsX2_failed RX2 := ⟨hx, hb, hml, hown, hts⟩
  have k144 := hts (.fieldLink RX2 144 "MailRoomModel" "kept" "I") (List.mem_of_getElem? (i := 1) rfl)
  have k53 := hts (.fieldLink RX2 53 "MailRoomModel" "keptFailures" "[I") (List.mem_of_getElem? (i := 3) rfl)
  have k50 := hts (.fieldLink RX2 50 "MailRoomModel" "keptKinds" "[I") (List.mem_of_getElem? (i := 2) rfl)
  refine lv_iload_n hx hb dX2_failed_0 rfl (lv_at hl 2 rfl) ?_
  refine lv_iconst (v := 0) hx hb dX2_failed_1 (by decide) ?_
  refine lv_iconst (v := 1) hx hb dX2_failed_2 (by decide) ?_
  refine z_calls (As := [.int what, .int 0, .int 1]) (rest := []) XX (cMM_in l what 0 1) (va_cwS 3 hts gX2_failed_X2_in rfl rfl rfl qX2_in ⟨by decide, by decide⟩) rfl hl.1 rfl (Nat.le_of_ble_eq_true rfl) dX2_failed_3 ⟨Nat.zero_le _, Nat.zero_le _⟩ ?_
  refine lv_if_ne (tgt := 12) hx hb dX2_failed_6 (by decide) (fun c6 => ?_) (fun c6 => ?_)
  · refine lv_iload_n hx hb dX2_failed_12 rfl (lv_at hl 1 rfl) ?_
    refine lv_iconst (v := 0) hx hb dX2_failed_13 (by decide) ?_
    refine lv_aload_n hx hb dX2_failed_14 rfl (lv_at hl 0 rfl) ?_
    refine m_gi_kp (v := (m_kp σ)) hx hb hts inW hown hK hP (rfl) k144 dX2_failed_15 ?_
    refine lv_iconst (v := 1) hx hb dX2_failed_18 (by decide) ?_
    refine lv_isub hx hb dX2_failed_19 ?_
    refine z_calls (As := [.int i, .int 0, .int ((m_kp σ) - 1)]) (rest := []) XX (cMM_in l i 0 ((m_kp σ) - 1)) (va_cwS 3 hts gX2_failed_X2_in rfl rfl rfl qX2_in ⟨by decide, by decide⟩) rfl hl.1 rfl (Nat.le_of_ble_eq_true rfl) dX2_failed_20 ⟨Nat.zero_le _, Nat.zero_le _⟩ ?_
    refine lv_if_ne (tgt := 28) hx hb dX2_failed_23 (by decide) (fun c23 => ?_) (fun c23 => ?_)
    · refine lv_iload_n hx hb dX2_failed_28 rfl (lv_at hl 2 rfl) ?_
      refine lv_if_ne (tgt := 41) hx hb dX2_failed_29 (by decide) (fun c29 => ?_) (fun c29 => ?_)
      · refine lv_aload_n hx hb dX2_failed_41 rfl (lv_at hl 0 rfl) ?_
        refine m_ga_15 hx hb hts inW hown hK hP k53 dX2_failed_42 ?_
        refine lv_iload_n hx hb dX2_failed_45 rfl (lv_at hl 1 rfl) ?_
        refine m_ld_kf (f := (m_kf σ)) (i := i) hx hb hK hP (rfl) (mfk_in hk (by assumption)) dX2_failed_46 ?_
        exact z_reti hx hb hr hlocks rfl hK hP hD hS (congrArg (fun x => (x, σ)) ((if_neg c6).trans ((if_neg c23).trans ((if_neg c29).trans (rfl))))) dX2_failed_47
      · refine lv_aload_n hx hb dX2_failed_32 rfl (lv_at hl 0 rfl) ?_
        refine m_ga_14 hx hb hts inW hown hK hP k50 dX2_failed_33 ?_
        refine lv_iload_n hx hb dX2_failed_36 rfl (lv_at hl 1 rfl) ?_
        refine m_ld_kk (f := (m_kk σ)) (i := i) hx hb hK hP (rfl) (mfk_in hk (by assumption)) dX2_failed_37 ?_
        refine lv_goto (tgt := 47) hx hb dX2_failed_38 (by decide) ?_
        exact z_reti hx hb hr hlocks rfl hK hP hD hS (congrArg (fun x => (x, σ)) ((if_neg c6).trans ((if_neg c23).trans ((if_pos c29).trans (rfl))))) dX2_failed_47
    · refine lv_iconst (v := (-1)) hx hb dX2_failed_26 (by decide) ?_
      exact z_reti hx hb hr hlocks rfl hK hP hD hS (congrArg (fun x => (x, σ)) ((if_neg c6).trans ((if_pos c23).trans (rfl)))) dX2_failed_27
  · refine lv_bipush (v := (-3)) hx hb dX2_failed_9 (by decide) ?_
    exact z_reti hx hb hr hlocks rfl hK hP hD hS (congrArg (fun x => (x, σ)) ((if_pos c6).trans (rfl))) dX2_failed_11
noncomputable def mf_value  (i : Int32) (σ : SM) : Int64 := if (mf_in i 0 ((m_kp σ) - 1)) = 0 then 0 else ((m_kv σ) i.toNatClampNeg)
set_option maxRecDepth 100000 in
set_option maxHeartbeats 4000000 in
theorem cMM_value (l : Launch) (D : va_G) (O : Nat → Nat) (K : Nat → ClassId) (i : Int32) (σ : SM) (hk : ∃ n, n ≤ 30 ∧ m_kp σ = nI n) : cL l yX2_value wsX2_value { frames := 2, cells := 0, slots := 0, locals := 200 } 0 0 D (mT K) (mW O K) σ [.ref (O 0), .int i] ((mf_value i σ), σ) := by
  intro sz
  refine z_start (cc := cX2_value) (maxL := 2) (ret := (some .long)) (Qc := fun A => va_Ql (fun r9 u9 => r9 = ((mf_value i σ), σ).1 ∧ u9 = ((mf_value i σ), σ).2) (zB D (mT K) (mW O K) A) A) sz (by decide) rfl (Nat.le_of_ble_eq_true rfl) ?_
  intro p e s m below meth c A X hA hK hP hD hS ls hl
  obtain ⟨hx, hb, hr, hml, hts, hown, hlocks, hnm⟩ := X
  have hown : s.vm.findClass RX2 = some m.cls := hown
  have hl : lv_has ls 2 [(0, .ref (O 0)), (1, .int i)] := hl
  have inW : ∀ w ∈ wsX20, w ∈ wsX2_value := fun w h => List.mem_cons_of_mem _ (List.mem_append_right _ h)
  have XX : CallFix p m c cX2_value 2 s _ wsX2_value RX2 := ⟨hx, hb, hml, hown, hts⟩
  have k144 := hts (.fieldLink RX2 144 "MailRoomModel" "kept" "I") (List.mem_of_getElem? (i := 1) rfl)
  have k56 := hts (.fieldLink RX2 56 "MailRoomModel" "keptValues" "[J") (List.mem_of_getElem? (i := 2) rfl)
  refine lv_iload_n hx hb dX2_value_0 rfl (lv_at hl 1 rfl) ?_
  refine lv_iconst (v := 0) hx hb dX2_value_1 (by decide) ?_
  refine lv_aload_n hx hb dX2_value_2 rfl (lv_at hl 0 rfl) ?_
  refine m_gi_kp (v := (m_kp σ)) hx hb hts inW hown hK hP (rfl) k144 dX2_value_3 ?_
  refine lv_iconst (v := 1) hx hb dX2_value_6 (by decide) ?_
  refine lv_isub hx hb dX2_value_7 ?_
  refine z_calls (As := [.int i, .int 0, .int ((m_kp σ) - 1)]) (rest := []) XX (cMM_in l i 0 ((m_kp σ) - 1)) (va_cwS 3 hts gX2_value_X2_in rfl rfl rfl qX2_in ⟨by decide, by decide⟩) rfl hl.1 rfl (Nat.le_of_ble_eq_true rfl) dX2_value_8 ⟨Nat.zero_le _, Nat.zero_le _⟩ ?_
  refine lv_if_eq (tgt := 23) hx hb dX2_value_11 (by decide) (fun c11 => ?_) (fun c11 => ?_)
  · refine lv_lconst (v := 0) hx hb dX2_value_23 (by decide) ?_
    exact z_retl hx hb hr hlocks hK hP hD hS (congrArg (fun x => (x, σ)) ((if_pos c11).trans (rfl))) dX2_value_24
  · refine lv_aload_n hx hb dX2_value_14 rfl (lv_at hl 0 rfl) ?_
    refine m_ga_16 hx hb hts inW hown hK hP k56 dX2_value_15 ?_
    refine lv_iload_n hx hb dX2_value_18 rfl (lv_at hl 1 rfl) ?_
    refine m_ld_kv (f := (m_kv σ)) (i := i) hx hb hK hP (rfl) (mfk_in hk (by assumption)) dX2_value_19 ?_
    refine lv_goto (tgt := 24) hx hb dX2_value_20 (by decide) ?_
    exact z_retl hx hb hr hlocks hK hP hD hS (congrArg (fun x => (x, σ)) ((if_neg c11).trans (rfl))) dX2_value_24
noncomputable def mf_count  (what : Int32) (σ : SM) : Int32 := if what = 0 then (m_sz σ) else (if what = 1 then (m_tk σ) else (if what = 2 then ((m_many σ) - 2) else (if what = 3 then (m_fe σ) else (if what = 4 then (m_la σ) else (-3)))))
set_option maxRecDepth 100000 in
set_option maxHeartbeats 4000000 in
theorem cMM_count (l : Launch) (D : va_G) (O : Nat → Nat) (K : Nat → ClassId) (what : Int32) (σ : SM)  : cI l yX2_count wsX2_count { frames := 0, cells := 0, slots := 0, locals := 0 } 0 0 D (mT K) (mW O K) σ [.ref (O 0), .int what] ((mf_count what σ), σ) := by
  intro sz
  refine z_start (cc := cX2_count) (maxL := 2) (ret := (some .int)) (Qc := fun A => va_Qi (fun r9 u9 => r9 = ((mf_count what σ), σ).1 ∧ u9 = ((mf_count what σ), σ).2) (zB D (mT K) (mW O K) A) A) sz (by decide) rfl (Nat.le_of_ble_eq_true rfl) ?_
  intro p e s m below meth c A X hA hK hP hD hS ls hl
  obtain ⟨hx, hb, hr, hml, hts, hown, hlocks, hnm⟩ := X
  have hown : s.vm.findClass RX2 = some m.cls := hown
  have hl : lv_has ls 2 [(0, .ref (O 0)), (1, .int what)] := hl
  have inW : ∀ w ∈ wsX20, w ∈ wsX2_count := fun w h => List.mem_cons_of_mem _ (List.mem_append_right _ h)
  have XX : CallFix p m c cX2_count 2 s _ wsX2_count RX2 := ⟨hx, hb, hml, hown, hts⟩
  have k86 := hts (.fieldLink RX2 86 "MailRoomModel" "size" "I") (List.mem_of_getElem? (i := 1) rfl)
  have k132 := hts (.fieldLink RX2 132 "MailRoomModel" "taken" "I") (List.mem_of_getElem? (i := 2) rfl)
  have k68 := hts (.fieldLink RX2 68 "MailRoomModel" "many" "I") (List.mem_of_getElem? (i := 3) rfl)
  have k141 := hts (.fieldLink RX2 141 "MailRoomModel" "fell" "I") (List.mem_of_getElem? (i := 4) rfl)
  have k112 := hts (.fieldLink RX2 112 "MailRoomModel" "latest" "I") (List.mem_of_getElem? (i := 5) rfl)
  refine lv_iload_n hx hb dX2_count_0 rfl (lv_at hl 1 rfl) ?_
  by_cases t1_0 : what = 0
  · refine lv_tableIn (off := 35) (tgt := 36) hx hb dX2_count_1 (by rw [t1_0]; decide) (by rw [t1_0]; decide) (by rw [t1_0]; rfl) (by decide) ?_
    refine lv_aload_n hx hb dX2_count_36 rfl (lv_at hl 0 rfl) ?_
    refine m_gi_sz (v := (m_sz σ)) hx hb hts inW hown hK hP (rfl) k86 dX2_count_37 ?_
    exact z_reti hx hb hr hlocks rfl hK hP hD hS (congrArg (fun x => (x, σ)) ((if_pos t1_0).trans (rfl))) dX2_count_40
  · by_cases t1_1 : what = 1
    · refine lv_tableIn (off := 40) (tgt := 41) hx hb dX2_count_1 (by rw [t1_1]; decide) (by rw [t1_1]; decide) (by rw [t1_1]; rfl) (by decide) ?_
      refine lv_aload_n hx hb dX2_count_41 rfl (lv_at hl 0 rfl) ?_
      refine m_gi_tk (v := (m_tk σ)) hx hb hts inW hown hK hP (rfl) k132 dX2_count_42 ?_
      exact z_reti hx hb hr hlocks rfl hK hP hD hS (congrArg (fun x => (x, σ)) ((if_neg t1_0).trans ((if_pos t1_1).trans (rfl)))) dX2_count_45
    · by_cases t1_2 : what = 2
      · refine lv_tableIn (off := 45) (tgt := 46) hx hb dX2_count_1 (by rw [t1_2]; decide) (by rw [t1_2]; decide) (by rw [t1_2]; rfl) (by decide) ?_
        refine lv_aload_n hx hb dX2_count_46 rfl (lv_at hl 0 rfl) ?_
        refine m_gi_many (v := (m_many σ)) hx hb hts inW hown hK hP (rfl) k68 dX2_count_47 ?_
        refine lv_iconst (v := 2) hx hb dX2_count_50 (by decide) ?_
        refine lv_isub hx hb dX2_count_51 ?_
        exact z_reti hx hb hr hlocks rfl hK hP hD hS (congrArg (fun x => (x, σ)) ((if_neg t1_0).trans ((if_neg t1_1).trans ((if_pos t1_2).trans (rfl))))) dX2_count_52
      · by_cases t1_3 : what = 3
        · refine lv_tableIn (off := 52) (tgt := 53) hx hb dX2_count_1 (by rw [t1_3]; decide) (by rw [t1_3]; decide) (by rw [t1_3]; rfl) (by decide) ?_
          refine lv_aload_n hx hb dX2_count_53 rfl (lv_at hl 0 rfl) ?_
          refine m_gi_fe (v := (m_fe σ)) hx hb hts inW hown hK hP (rfl) k141 dX2_count_54 ?_
          exact z_reti hx hb hr hlocks rfl hK hP hD hS (congrArg (fun x => (x, σ)) ((if_neg t1_0).trans ((if_neg t1_1).trans ((if_neg t1_2).trans ((if_pos t1_3).trans (rfl)))))) dX2_count_57
        · by_cases t1_4 : what = 4
          · refine lv_tableIn (off := 57) (tgt := 58) hx hb dX2_count_1 (by rw [t1_4]; decide) (by rw [t1_4]; decide) (by rw [t1_4]; rfl) (by decide) ?_
            refine lv_aload_n hx hb dX2_count_58 rfl (lv_at hl 0 rfl) ?_
            refine m_gi_la (v := (m_la σ)) hx hb hts inW hown hK hP (rfl) k112 dX2_count_59 ?_
            exact z_reti hx hb hr hlocks rfl hK hP hD hS (congrArg (fun x => (x, σ)) ((if_neg t1_0).trans ((if_neg t1_1).trans ((if_neg t1_2).trans ((if_neg t1_3).trans ((if_pos t1_4).trans (rfl))))))) dX2_count_62
          · refine lv_tableOut (tgt := 63) hx hb dX2_count_1 (z_out 4 (by decide) (fun k hk => match k, hk with | 0, _ => t1_0 | 1, _ => t1_1 | 2, _ => t1_2 | 3, _ => t1_3 | 4, _ => t1_4 | (k + 5), hk => absurd hk (by omega))) (by decide) ?_
            refine lv_bipush (v := (-3)) hx hb dX2_count_63 (by decide) ?_
            exact z_reti hx hb hr hlocks rfl hK hP hD hS (congrArg (fun x => (x, σ)) ((if_neg t1_0).trans ((if_neg t1_1).trans ((if_neg t1_2).trans ((if_neg t1_3).trans ((if_neg t1_4).trans (rfl))))))) dX2_count_65
noncomputable def mf_drop  (k : Int32) (σ : SM) : Int32 × SM := if (mf_isKind k) = 0 then ((-2), σ) else (if ((m_st σ) k.toNatClampNeg) < 0 then (0, ms_st σ (upd (m_st σ) k.toNatClampNeg (-1))) else (1, ms_st σ (upd (m_st σ) k.toNatClampNeg (-1))))
set_option maxRecDepth 100000 in
set_option maxHeartbeats 4000000 in
theorem cMM_drop (l : Launch) (D : va_G) (O : Nat → Nat) (K : Nat → ClassId) (k : Int32) (σ : SM)  : cI l yX2_drop wsX2_drop { frames := 2, cells := 0, slots := 0, locals := 200 } 0 0 D (mT K) (mW O K) σ [.ref (O 0), .int k] (mf_drop k σ) := by
  intro sz
  refine z_start (cc := cX2_drop) (maxL := 3) (ret := (some .int)) (Qc := fun A => va_Qi (fun r9 u9 => r9 = (mf_drop k σ).1 ∧ u9 = (mf_drop k σ).2) (zB D (mT K) (mW O K) A) A) sz (by decide) rfl (Nat.le_of_ble_eq_true rfl) ?_
  intro p e s m below meth c A X hA hK hP hD hS ls hl
  obtain ⟨hx, hb, hr, hml, hts, hown, hlocks, hnm⟩ := X
  have hown : s.vm.findClass RX2 = some m.cls := hown
  have hl : lv_has ls 3 [(0, .ref (O 0)), (1, .int k)] := hl
  have inW : ∀ w ∈ wsX20, w ∈ wsX2_drop := fun w h => List.mem_cons_of_mem _ (List.mem_append_right _ h)
  have XX : CallFix p m c cX2_drop 3 s _ wsX2_drop RX2 := ⟨hx, hb, hml, hown, hts⟩
  have k41 := hts (.fieldLink RX2 41 "MailRoomModel" "stands" "[I") (List.mem_of_getElem? (i := 1) rfl)
  refine lv_iload_n hx hb dX2_drop_0 rfl (lv_at hl 1 rfl) ?_
  refine z_calls (As := [.int k]) (rest := []) XX (cMM_isKind l k) (va_cwS 1 hts gX2_drop_X2_isKind rfl rfl rfl qX2_isKind ⟨by decide, by decide⟩) rfl hl.1 rfl (Nat.le_of_ble_eq_true rfl) dX2_drop_1 ⟨Nat.zero_le _, Nat.zero_le _⟩ ?_
  refine lv_if_ne (tgt := 10) hx hb dX2_drop_4 (by decide) (fun c4 => ?_) (fun c4 => ?_)
  · refine lv_aload_n hx hb dX2_drop_10 rfl (lv_at hl 0 rfl) ?_
    refine m_ga_11 hx hb hts inW hown hK hP k41 dX2_drop_11 ?_
    refine lv_iload_n hx hb dX2_drop_14 rfl (lv_at hl 1 rfl) ?_
    refine m_ld_st (f := (m_st σ)) (i := k) hx hb hK hP (rfl) (mkind_in (by assumption)) dX2_drop_15 ?_
    refine lv_if_lt (tgt := 23) hx hb dX2_drop_16 (by decide) (fun c16 => ?_) (fun c16 => ?_)
    · refine lv_iconst (v := 0) hx hb dX2_drop_23 (by decide) ?_
      refine lv_istore_n (lv' := [(2, .int 0), (0, .ref (O 0)), (1, .int k)]) hx hb dX2_drop_24 rfl hl (by decide) rfl (fun ls hl => ?_)
      refine lv_aload_n hx hb dX2_drop_25 rfl (lv_at hl 1 rfl) ?_
      refine m_ga_11 hx hb hts inW hown hK hP k41 dX2_drop_26 ?_
      refine lv_iload_n hx hb dX2_drop_29 rfl (lv_at hl 2 rfl) ?_
      refine lv_iconst (v := (-1)) hx hb dX2_drop_30 (by decide) ?_
      refine m_st_st (f := (m_st σ)) (i := k) hx hb hK hP hD hS (rfl) (mkind_in (by assumption)) dX2_drop_31 (fun H locs hP hD hS => ?_)
      refine lv_iload_n hx hb dX2_drop_32 rfl (lv_at hl 0 rfl) ?_
      exact z_reti hx hb hr hlocks rfl hK hP hD hS ((if_neg c4).trans ((if_pos c16).trans (rfl))) dX2_drop_33
    · refine lv_iconst (v := 1) hx hb dX2_drop_19 (by decide) ?_
      refine lv_goto (tgt := 24) hx hb dX2_drop_20 (by decide) ?_
      refine lv_istore_n (lv' := [(2, .int 1), (0, .ref (O 0)), (1, .int k)]) hx hb dX2_drop_24 rfl hl (by decide) rfl (fun ls hl => ?_)
      refine lv_aload_n hx hb dX2_drop_25 rfl (lv_at hl 1 rfl) ?_
      refine m_ga_11 hx hb hts inW hown hK hP k41 dX2_drop_26 ?_
      refine lv_iload_n hx hb dX2_drop_29 rfl (lv_at hl 2 rfl) ?_
      refine lv_iconst (v := (-1)) hx hb dX2_drop_30 (by decide) ?_
      refine m_st_st (f := (m_st σ)) (i := k) hx hb hK hP hD hS (rfl) (mkind_in (by assumption)) dX2_drop_31 (fun H locs hP hD hS => ?_)
      refine lv_iload_n hx hb dX2_drop_32 rfl (lv_at hl 0 rfl) ?_
      exact z_reti hx hb hr hlocks rfl hK hP hD hS ((if_neg c4).trans ((if_neg c16).trans (rfl))) dX2_drop_33
  · refine lv_bipush (v := (-2)) hx hb dX2_drop_7 (by decide) ?_
    exact z_reti hx hb hr hlocks rfl hK hP hD hS ((if_pos c4).trans (rfl)) dX2_drop_9
