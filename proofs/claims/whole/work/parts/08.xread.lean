noncomputable def xf_isFailedKept  (i : Int32) (σ : SX) : Int32 := if i < 0 then 0 else (if 30 ≤ i then 0 else (if (x_fl σ) ≤ i then 0 else 1))
set_option maxRecDepth 100000 in
set_option maxHeartbeats 4000000 in
theorem cx_isFailedKept (l : Launch) (D : va_G) (O : Nat → Nat) (K : Nat → ClassId) (ad : Nat → Nat) (i : Int32) (σ : SX)  : cI l yX1_isFailedKept wsX1_isFailedKept { frames := 0, cells := 0, slots := 0, locals := 0 } 0 0 D (xT K) (xW O K ad) σ [.ref (O 0), .int i] ((xf_isFailedKept i σ), σ) := by
  intro sz
  refine z_start (cc := cX1_isFailedKept) (maxL := 2) (ret := (some .boolean)) (Qc := fun A => va_Qi (fun r9 u9 => r9 = ((xf_isFailedKept i σ), σ).1 ∧ u9 = ((xf_isFailedKept i σ), σ).2) (zB D (xT K) (xW O K ad) A) A) sz (by decide) rfl (Nat.le_of_ble_eq_true rfl) ?_
  intro p e s m below meth c A X hA hK hP hD hS ls hl
  obtain ⟨hx, hb, hr, hml, hts, hown, hlocks, hnm⟩ := X
  have hown : s.vm.findClass RX1 = some m.cls := hown
  have hl : lv_has ls 2 [(0, .ref (O 0)), (1, .int i)] := hl
  have inW : ∀ w ∈ wsX10, w ∈ wsX1_isFailedKept := fun w h => List.mem_cons_of_mem _ (List.mem_append_right _ h)
  have XX : CallFix p m c cX1_isFailedKept 2 s _ wsX1_isFailedKept RX1 := ⟨hx, hb, hml, hown, hts⟩
  have k84 := hts (.fieldLink RX1 84 "MailRoom" "failures" "I") (List.mem_of_getElem? (i := 1) rfl)
  refine lv_iload_n hx hb dX1_isFailedKept_0 rfl (lv_at hl 1 rfl) ?_
  refine lv_if_lt (tgt := 22) hx hb dX1_isFailedKept_1 (by decide) (fun c1 => ?_) (fun c1 => ?_)
  · refine lv_iconst (v := 0) hx hb dX1_isFailedKept_22 (by decide) ?_
    exact z_reti hx hb hr hlocks rfl hK hP hD hS (congrArg (fun x => (x, σ)) ((if_pos c1).trans (rfl))) dX1_isFailedKept_23
  · refine lv_iload_n hx hb dX1_isFailedKept_4 rfl (lv_at hl 1 rfl) ?_
    refine lv_bipush (v := 30) hx hb dX1_isFailedKept_5 (by decide) ?_
    refine lv_icmp_ge (tgt := 22) hx hb dX1_isFailedKept_7 (by decide) (fun c7 => ?_) (fun c7 => ?_)
    · refine lv_iconst (v := 0) hx hb dX1_isFailedKept_22 (by decide) ?_
      exact z_reti hx hb hr hlocks rfl hK hP hD hS (congrArg (fun x => (x, σ)) ((if_neg c1).trans ((if_pos c7).trans (rfl)))) dX1_isFailedKept_23
    · refine lv_iload_n hx hb dX1_isFailedKept_10 rfl (lv_at hl 1 rfl) ?_
      refine lv_aload_n hx hb dX1_isFailedKept_11 rfl (lv_at hl 0 rfl) ?_
      refine x_gi_fl (v := (x_fl σ)) hx hb hts inW hown hK hP (rfl) k84 dX1_isFailedKept_12 ?_
      refine lv_icmp_ge (tgt := 22) hx hb dX1_isFailedKept_15 (by decide) (fun c15 => ?_) (fun c15 => ?_)
      · refine lv_iconst (v := 0) hx hb dX1_isFailedKept_22 (by decide) ?_
        exact z_reti hx hb hr hlocks rfl hK hP hD hS (congrArg (fun x => (x, σ)) ((if_neg c1).trans ((if_neg c7).trans ((if_pos c15).trans (rfl))))) dX1_isFailedKept_23
      · refine lv_iconst (v := 1) hx hb dX1_isFailedKept_18 (by decide) ?_
        refine lv_goto (tgt := 23) hx hb dX1_isFailedKept_19 (by decide) ?_
        exact z_reti hx hb hr hlocks rfl hK hP hD hS (congrArg (fun x => (x, σ)) ((if_neg c1).trans ((if_neg c7).trans ((if_neg c15).trans (rfl))))) dX1_isFailedKept_23
noncomputable def xf_handlerOf  (k : Int32) (σ : SX) : Option Nat := if (xf_isKind k) = 0 then none else ((x_hd σ) k.toNatClampNeg)
set_option maxRecDepth 100000 in
set_option maxHeartbeats 4000000 in
theorem cx_handlerOf (l : Launch) (D : va_G) (O : Nat → Nat) (K : Nat → ClassId) (ad : Nat → Nat) (k : Int32) (σ : SX)  : cQ ad l yX1_handlerOf wsX1_handlerOf { frames := 1, cells := 0, slots := 0, locals := 100 } 0 0 D (xT K) (xW O K ad) σ [.ref (O 0), .int k] ((xf_handlerOf k σ), σ) := by
  intro sz
  refine z_start (cc := cX1_handlerOf) (maxL := 2) (ret := (some (.object "MailRoom$Handler"))) (Qc := fun A => va_Qq (fun r9 u9 => r9 = ((xf_handlerOf k σ), σ).1.map ad ∧ u9 = ((xf_handlerOf k σ), σ).2) (zB D (xT K) (xW O K ad) A) A) sz (by decide) rfl (Nat.le_of_ble_eq_true rfl) ?_
  intro p e s m below meth c A X hA hK hP hD hS ls hl
  obtain ⟨hx, hb, hr, hml, hts, hown, hlocks, hnm⟩ := X
  have hown : s.vm.findClass RX1 = some m.cls := hown
  have hl : lv_has ls 2 [(0, .ref (O 0)), (1, .int k)] := hl
  have inW : ∀ w ∈ wsX10, w ∈ wsX1_handlerOf := fun w h => List.mem_cons_of_mem _ (List.mem_append_right _ h)
  have XX : CallFix p m c cX1_handlerOf 2 s _ wsX1_handlerOf RX1 := ⟨hx, hb, hml, hown, hts⟩
  have k19 := hts (.fieldLink RX1 19 "MailRoom" "handlers" "[LMailRoom$Handler;") (List.mem_of_getElem? (i := 1) rfl)
  refine lv_iload_n hx hb dX1_handlerOf_0 rfl (lv_at hl 1 rfl) ?_
  refine z_calls (As := [.int k]) (rest := []) XX (cx_isKind l k) (va_cwS 1 hts gX1_handlerOf_X1_isKind rfl rfl rfl qX1_isKind ⟨by decide, by decide⟩) rfl hl.1 rfl (Nat.le_of_ble_eq_true rfl) dX1_handlerOf_1 ⟨Nat.zero_le _, Nat.zero_le _⟩ ?_
  refine lv_if_eq (tgt := 16) hx hb dX1_handlerOf_4 (by decide) (fun c4 => ?_) (fun c4 => ?_)
  · refine z_null ad hx hb dX1_handlerOf_16 ?_
    exact z_retq hx hb hr hlocks hK hP hD hS (congrArg (fun x => (x, σ)) ((if_pos c4).trans (rfl))) dX1_handlerOf_17
  · refine lv_aload_n hx hb dX1_handlerOf_7 rfl (lv_at hl 0 rfl) ?_
    refine x_ga_3 hx hb hts inW hown hK hP k19 dX1_handlerOf_8 ?_
    refine lv_iload_n hx hb dX1_handlerOf_11 rfl (lv_at hl 1 rfl) ?_
    refine x_aldH hx hb hK hP (i := k) (xkind_in (by assumption)) dX1_handlerOf_12 ?_
    refine lv_goto (tgt := 17) hx hb dX1_handlerOf_13 (by decide) ?_
    exact z_retq hx hb hr hlocks hK hP hD hS (congrArg (fun x => (x, σ)) ((if_neg c4).trans (rfl))) dX1_handlerOf_17
noncomputable def xf_has  (k : Int32) (σ : SX) : Int32 := if (xf_isKind k) = 0 then (-2) else (if ((x_hd σ) k.toNatClampNeg) = none then 0 else 1)
set_option maxRecDepth 100000 in
set_option maxHeartbeats 4000000 in
theorem cx_has (l : Launch) (D : va_G) (O : Nat → Nat) (K : Nat → ClassId) (ad : Nat → Nat) (k : Int32) (σ : SX)  : cI l yX1_has wsX1_has { frames := 1, cells := 0, slots := 0, locals := 100 } 0 0 D (xT K) (xW O K ad) σ [.ref (O 0), .int k] ((xf_has k σ), σ) := by
  intro sz
  refine z_start (cc := cX1_has) (maxL := 2) (ret := (some .int)) (Qc := fun A => va_Qi (fun r9 u9 => r9 = ((xf_has k σ), σ).1 ∧ u9 = ((xf_has k σ), σ).2) (zB D (xT K) (xW O K ad) A) A) sz (by decide) rfl (Nat.le_of_ble_eq_true rfl) ?_
  intro p e s m below meth c A X hA hK hP hD hS ls hl
  obtain ⟨hx, hb, hr, hml, hts, hown, hlocks, hnm⟩ := X
  have hown : s.vm.findClass RX1 = some m.cls := hown
  have hl : lv_has ls 2 [(0, .ref (O 0)), (1, .int k)] := hl
  have inW : ∀ w ∈ wsX10, w ∈ wsX1_has := fun w h => List.mem_cons_of_mem _ (List.mem_append_right _ h)
  have XX : CallFix p m c cX1_has 2 s _ wsX1_has RX1 := ⟨hx, hb, hml, hown, hts⟩
  have k19 := hts (.fieldLink RX1 19 "MailRoom" "handlers" "[LMailRoom$Handler;") (List.mem_of_getElem? (i := 1) rfl)
  refine lv_iload_n hx hb dX1_has_0 rfl (lv_at hl 1 rfl) ?_
  refine z_calls (As := [.int k]) (rest := []) XX (cx_isKind l k) (va_cwS 1 hts gX1_has_X1_isKind rfl rfl rfl qX1_isKind ⟨by decide, by decide⟩) rfl hl.1 rfl (Nat.le_of_ble_eq_true rfl) dX1_has_1 ⟨Nat.zero_le _, Nat.zero_le _⟩ ?_
  refine lv_if_ne (tgt := 10) hx hb dX1_has_4 (by decide) (fun c4 => ?_) (fun c4 => ?_)
  · refine lv_aload_n hx hb dX1_has_10 rfl (lv_at hl 0 rfl) ?_
    refine x_ga_3 hx hb hts inW hown hK hP k19 dX1_has_11 ?_
    refine lv_iload_n hx hb dX1_has_14 rfl (lv_at hl 1 rfl) ?_
    refine x_aldH hx hb hK hP (i := k) (xkind_in (by assumption)) dX1_has_15 ?_
    refine z_ifnull (tgt := 23) hx hb dX1_has_16 (by decide) (fun c16 => ?_) (fun c16 => ?_)
    · refine lv_iconst (v := 0) hx hb dX1_has_23 (by decide) ?_
      exact z_reti hx hb hr hlocks rfl hK hP hD hS (congrArg (fun x => (x, σ)) ((if_neg c4).trans ((if_pos c16).trans (rfl)))) dX1_has_24
    · refine lv_iconst (v := 1) hx hb dX1_has_19 (by decide) ?_
      refine lv_goto (tgt := 24) hx hb dX1_has_20 (by decide) ?_
      exact z_reti hx hb hr hlocks rfl hK hP hD hS (congrArg (fun x => (x, σ)) ((if_neg c4).trans ((if_neg c16).trans (rfl)))) dX1_has_24
  · refine lv_bipush (v := (-2)) hx hb dX1_has_7 (by decide) ?_
    exact z_reti hx hb hr hlocks rfl hK hP hD hS (congrArg (fun x => (x, σ)) ((if_pos c4).trans (rfl))) dX1_has_9
noncomputable def xf_sum  (b : Int32) (σ : SX) : Int64 := if (xf_isBox b) = 0 then 0 else ((x_bs σ) b.toNatClampNeg)
set_option maxRecDepth 100000 in
set_option maxHeartbeats 4000000 in
theorem cx_sum (l : Launch) (D : va_G) (O : Nat → Nat) (K : Nat → ClassId) (ad : Nat → Nat) (b : Int32) (σ : SX)  : cL l yX1_sum wsX1_sum { frames := 1, cells := 0, slots := 0, locals := 100 } 0 0 D (xT K) (xW O K ad) σ [.ref (O 0), .int b] ((xf_sum b σ), σ) := by
  intro sz
  refine z_start (cc := cX1_sum) (maxL := 2) (ret := (some .long)) (Qc := fun A => va_Ql (fun r9 u9 => r9 = ((xf_sum b σ), σ).1 ∧ u9 = ((xf_sum b σ), σ).2) (zB D (xT K) (xW O K ad) A) A) sz (by decide) rfl (Nat.le_of_ble_eq_true rfl) ?_
  intro p e s m below meth c A X hA hK hP hD hS ls hl
  obtain ⟨hx, hb, hr, hml, hts, hown, hlocks, hnm⟩ := X
  have hown : s.vm.findClass RX1 = some m.cls := hown
  have hl : lv_has ls 2 [(0, .ref (O 0)), (1, .int b)] := hl
  have inW : ∀ w ∈ wsX10, w ∈ wsX1_sum := fun w h => List.mem_cons_of_mem _ (List.mem_append_right _ h)
  have XX : CallFix p m c cX1_sum 2 s _ wsX1_sum RX1 := ⟨hx, hb, hml, hown, hts⟩
  have k9 := hts (.fieldLink RX1 9 "MailRoom" "boxSums" "[J") (List.mem_of_getElem? (i := 1) rfl)
  refine lv_iload_n hx hb dX1_sum_0 rfl (lv_at hl 1 rfl) ?_
  refine z_calls (As := [.int b]) (rest := []) XX (cx_isBox l b) (va_cwS 1 hts gX1_sum_X1_isBox rfl rfl rfl qX1_isBox ⟨by decide, by decide⟩) rfl hl.1 rfl (Nat.le_of_ble_eq_true rfl) dX1_sum_1 ⟨Nat.zero_le _, Nat.zero_le _⟩ ?_
  refine lv_if_eq (tgt := 16) hx hb dX1_sum_4 (by decide) (fun c4 => ?_) (fun c4 => ?_)
  · refine lv_lconst (v := 0) hx hb dX1_sum_16 (by decide) ?_
    exact z_retl hx hb hr hlocks hK hP hD hS (congrArg (fun x => (x, σ)) ((if_pos c4).trans (rfl))) dX1_sum_17
  · refine lv_aload_n hx hb dX1_sum_7 rfl (lv_at hl 0 rfl) ?_
    refine x_ga_1 hx hb hts inW hown hK hP k9 dX1_sum_8 ?_
    refine lv_iload_n hx hb dX1_sum_11 rfl (lv_at hl 1 rfl) ?_
    refine x_ld_bs (f := (x_bs σ)) (i := b) hx hb hK hP (rfl) (xbox_in (by assumption)) dX1_sum_12 ?_
    refine lv_goto (tgt := 17) hx hb dX1_sum_13 (by decide) ?_
    exact z_retl hx hb hr hlocks hK hP hD hS (congrArg (fun x => (x, σ)) ((if_neg c4).trans (rfl))) dX1_sum_17
noncomputable def xf_counted  (b : Int32) (σ : SX) : Int32 := if (xf_isBox b) = 0 then (-2) else ((x_bc σ) b.toNatClampNeg)
set_option maxRecDepth 100000 in
set_option maxHeartbeats 4000000 in
theorem cx_counted (l : Launch) (D : va_G) (O : Nat → Nat) (K : Nat → ClassId) (ad : Nat → Nat) (b : Int32) (σ : SX)  : cI l yX1_counted wsX1_counted { frames := 1, cells := 0, slots := 0, locals := 100 } 0 0 D (xT K) (xW O K ad) σ [.ref (O 0), .int b] ((xf_counted b σ), σ) := by
  intro sz
  refine z_start (cc := cX1_counted) (maxL := 2) (ret := (some .int)) (Qc := fun A => va_Qi (fun r9 u9 => r9 = ((xf_counted b σ), σ).1 ∧ u9 = ((xf_counted b σ), σ).2) (zB D (xT K) (xW O K ad) A) A) sz (by decide) rfl (Nat.le_of_ble_eq_true rfl) ?_
  intro p e s m below meth c A X hA hK hP hD hS ls hl
  obtain ⟨hx, hb, hr, hml, hts, hown, hlocks, hnm⟩ := X
  have hown : s.vm.findClass RX1 = some m.cls := hown
  have hl : lv_has ls 2 [(0, .ref (O 0)), (1, .int b)] := hl
  have inW : ∀ w ∈ wsX10, w ∈ wsX1_counted := fun w h => List.mem_cons_of_mem _ (List.mem_append_right _ h)
  have XX : CallFix p m c cX1_counted 2 s _ wsX1_counted RX1 := ⟨hx, hb, hml, hown, hts⟩
  have k13 := hts (.fieldLink RX1 13 "MailRoom" "boxCounts" "[I") (List.mem_of_getElem? (i := 1) rfl)
  refine lv_iload_n hx hb dX1_counted_0 rfl (lv_at hl 1 rfl) ?_
  refine z_calls (As := [.int b]) (rest := []) XX (cx_isBox l b) (va_cwS 1 hts gX1_counted_X1_isBox rfl rfl rfl qX1_isBox ⟨by decide, by decide⟩) rfl hl.1 rfl (Nat.le_of_ble_eq_true rfl) dX1_counted_1 ⟨Nat.zero_le _, Nat.zero_le _⟩ ?_
  refine lv_if_eq (tgt := 16) hx hb dX1_counted_4 (by decide) (fun c4 => ?_) (fun c4 => ?_)
  · refine lv_bipush (v := (-2)) hx hb dX1_counted_16 (by decide) ?_
    exact z_reti hx hb hr hlocks rfl hK hP hD hS (congrArg (fun x => (x, σ)) ((if_pos c4).trans (rfl))) dX1_counted_18
  · refine lv_aload_n hx hb dX1_counted_7 rfl (lv_at hl 0 rfl) ?_
    refine x_ga_2 hx hb hts inW hown hK hP k13 dX1_counted_8 ?_
    refine lv_iload_n hx hb dX1_counted_11 rfl (lv_at hl 1 rfl) ?_
    refine x_ld_bc (f := (x_bc σ)) (i := b) hx hb hK hP (rfl) (xbox_in (by assumption)) dX1_counted_12 ?_
    refine lv_goto (tgt := 18) hx hb dX1_counted_13 (by decide) ?_
    exact z_reti hx hb hr hlocks rfl hK hP hD hS (congrArg (fun x => (x, σ)) ((if_neg c4).trans (rfl))) dX1_counted_18
theorem xfk_in {i : Int32} {σ : SX} (h : ¬ xf_isFailedKept i σ = 0) : vp_in i 30 := by
  unfold xf_isFailedKept at h
  by_cases h0 : i < 0
  · rw [if_pos h0] at h; exact absurd rfl h
  · rw [if_neg h0] at h
    by_cases h1 : 30 ≤ i
    · rw [if_pos h1] at h; exact absurd rfl h
    · exact z_in (M := 30) rfl (by decide) h0 h1
noncomputable def xf_failed  (i : Int32) (what : Int32) (σ : SX) : Int32 := if what = 0 then (if (xf_isFailedKept i σ) = 0 then (-1) else (if what = 0 then ((x_fk σ) i.toNatClampNeg) else ((x_fn σ) i.toNatClampNeg))) else (if what = 1 then (if (xf_isFailedKept i σ) = 0 then (-1) else (if what = 0 then ((x_fk σ) i.toNatClampNeg) else ((x_fn σ) i.toNatClampNeg))) else (-3))
set_option maxRecDepth 100000 in
set_option maxHeartbeats 4000000 in
theorem cx_failed (l : Launch) (D : va_G) (O : Nat → Nat) (K : Nat → ClassId) (ad : Nat → Nat) (i : Int32) (what : Int32) (σ : SX)  : cI l yX1_failed wsX1_failed { frames := 1, cells := 0, slots := 0, locals := 100 } 0 0 D (xT K) (xW O K ad) σ [.ref (O 0), .int i, .int what] ((xf_failed i what σ), σ) := by
  intro sz
  refine z_start (cc := cX1_failed) (maxL := 3) (ret := (some .int)) (Qc := fun A => va_Qi (fun r9 u9 => r9 = ((xf_failed i what σ), σ).1 ∧ u9 = ((xf_failed i what σ), σ).2) (zB D (xT K) (xW O K ad) A) A) sz (by decide) rfl (Nat.le_of_ble_eq_true rfl) ?_
  intro p e s m below meth c A X hA hK hP hD hS ls hl
  obtain ⟨hx, hb, hr, hml, hts, hown, hlocks, hnm⟩ := X
  have hown : s.vm.findClass RX1 = some m.cls := hown
  have hl : lv_has ls 3 [(0, .ref (O 0)), (1, .int i), (2, .int what)] := hl
  have inW : ∀ w ∈ wsX10, w ∈ wsX1_failed := fun w h => List.mem_cons_of_mem _ (List.mem_append_right _ h)
  have XX : CallFix p m c cX1_failed 3 s _ wsX1_failed RX1 := ⟨hx, hb, hml, hown, hts⟩
  have k32 := hts (.fieldLink RX1 32 "MailRoom" "failedNumbers" "[I") (List.mem_of_getElem? (i := 2) rfl)
  have k29 := hts (.fieldLink RX1 29 "MailRoom" "failedKinds" "[I") (List.mem_of_getElem? (i := 1) rfl)
  refine lv_iload_n hx hb dX1_failed_0 rfl (lv_at hl 2 rfl) ?_
  refine lv_if_eq (tgt := 12) hx hb dX1_failed_1 (by decide) (fun c1 => ?_) (fun c1 => ?_)
  · refine lv_aload_n hx hb dX1_failed_12 rfl (lv_at hl 0 rfl) ?_
    refine lv_iload_n hx hb dX1_failed_13 rfl (lv_at hl 1 rfl) ?_
    refine z_calli (As := [.int i]) (rest := []) XX (cx_isFailedKept l D O K ad i σ) (cwV 1 hts gX1_failed_X1_isFailedKept rfl rfl rfl qX1_isFailedKept ⟨by decide, by decide⟩) (va_recv hK hP (ci := 1) (q0 := 0) rfl rfl) hK hP hD hS hA rfl hl.1 rfl (Nat.le_of_ble_eq_true rfl) dX1_failed_14 ⟨Nat.zero_le _, Nat.zero_le _⟩ (fun H locs hP hD hS => ?_)
    refine lv_if_ne (tgt := 22) hx hb dX1_failed_17 (by decide) (fun c17 => ?_) (fun c17 => ?_)
    · refine lv_iload_n hx hb dX1_failed_22 rfl (lv_at hl 2 rfl) ?_
      refine lv_if_ne (tgt := 35) hx hb dX1_failed_23 (by decide) (fun c23 => ?_) (fun c23 => ?_)
      · refine lv_aload_n hx hb dX1_failed_35 rfl (lv_at hl 0 rfl) ?_
        refine x_ga_7 hx hb hts inW hown hK hP k32 dX1_failed_36 ?_
        refine lv_iload_n hx hb dX1_failed_39 rfl (lv_at hl 1 rfl) ?_
        refine x_ld_fn (f := (x_fn σ)) (i := i) hx hb hK hP (rfl) (xfk_in (by assumption)) dX1_failed_40 ?_
        exact z_reti hx hb hr hlocks rfl hK hP hD hS (congrArg (fun x => (x, σ)) ((if_pos c1).trans ((if_neg c17).trans ((if_neg c23).trans (rfl))))) dX1_failed_41
      · refine lv_aload_n hx hb dX1_failed_26 rfl (lv_at hl 0 rfl) ?_
        refine x_ga_6 hx hb hts inW hown hK hP k29 dX1_failed_27 ?_
        refine lv_iload_n hx hb dX1_failed_30 rfl (lv_at hl 1 rfl) ?_
        refine x_ld_fk (f := (x_fk σ)) (i := i) hx hb hK hP (rfl) (xfk_in (by assumption)) dX1_failed_31 ?_
        refine lv_goto (tgt := 41) hx hb dX1_failed_32 (by decide) ?_
        exact z_reti hx hb hr hlocks rfl hK hP hD hS (congrArg (fun x => (x, σ)) ((if_pos c1).trans ((if_neg c17).trans ((if_pos c23).trans (rfl))))) dX1_failed_41
    · refine lv_iconst (v := (-1)) hx hb dX1_failed_20 (by decide) ?_
      exact z_reti hx hb hr hlocks rfl hK hP hD hS (congrArg (fun x => (x, σ)) ((if_pos c1).trans ((if_pos c17).trans (rfl)))) dX1_failed_21
  · refine lv_iload_n hx hb dX1_failed_4 rfl (lv_at hl 2 rfl) ?_
    refine lv_iconst (v := 1) hx hb dX1_failed_5 (by decide) ?_
    refine lv_icmp_eq (tgt := 12) hx hb dX1_failed_6 (by decide) (fun c6 => ?_) (fun c6 => ?_)
    · refine lv_aload_n hx hb dX1_failed_12 rfl (lv_at hl 0 rfl) ?_
      refine lv_iload_n hx hb dX1_failed_13 rfl (lv_at hl 1 rfl) ?_
      refine z_calli (As := [.int i]) (rest := []) XX (cx_isFailedKept l D O K ad i σ) (cwV 1 hts gX1_failed_X1_isFailedKept rfl rfl rfl qX1_isFailedKept ⟨by decide, by decide⟩) (va_recv hK hP (ci := 1) (q0 := 0) rfl rfl) hK hP hD hS hA rfl hl.1 rfl (Nat.le_of_ble_eq_true rfl) dX1_failed_14 ⟨Nat.zero_le _, Nat.zero_le _⟩ (fun H locs hP hD hS => ?_)
      refine lv_if_ne (tgt := 22) hx hb dX1_failed_17 (by decide) (fun c17 => ?_) (fun c17 => ?_)
      · refine lv_iload_n hx hb dX1_failed_22 rfl (lv_at hl 2 rfl) ?_
        refine lv_if_ne (tgt := 35) hx hb dX1_failed_23 (by decide) (fun c23 => ?_) (fun c23 => ?_)
        · refine lv_aload_n hx hb dX1_failed_35 rfl (lv_at hl 0 rfl) ?_
          refine x_ga_7 hx hb hts inW hown hK hP k32 dX1_failed_36 ?_
          refine lv_iload_n hx hb dX1_failed_39 rfl (lv_at hl 1 rfl) ?_
          refine x_ld_fn (f := (x_fn σ)) (i := i) hx hb hK hP (rfl) (xfk_in (by assumption)) dX1_failed_40 ?_
          exact z_reti hx hb hr hlocks rfl hK hP hD hS (congrArg (fun x => (x, σ)) ((if_neg c1).trans ((if_pos c6).trans ((if_neg c17).trans ((if_neg c23).trans (rfl)))))) dX1_failed_41
        · refine lv_aload_n hx hb dX1_failed_26 rfl (lv_at hl 0 rfl) ?_
          refine x_ga_6 hx hb hts inW hown hK hP k29 dX1_failed_27 ?_
          refine lv_iload_n hx hb dX1_failed_30 rfl (lv_at hl 1 rfl) ?_
          refine x_ld_fk (f := (x_fk σ)) (i := i) hx hb hK hP (rfl) (xfk_in (by assumption)) dX1_failed_31 ?_
          refine lv_goto (tgt := 41) hx hb dX1_failed_32 (by decide) ?_
          exact z_reti hx hb hr hlocks rfl hK hP hD hS (congrArg (fun x => (x, σ)) ((if_neg c1).trans ((if_pos c6).trans ((if_neg c17).trans ((if_pos c23).trans (rfl)))))) dX1_failed_41
      · refine lv_iconst (v := (-1)) hx hb dX1_failed_20 (by decide) ?_
        exact z_reti hx hb hr hlocks rfl hK hP hD hS (congrArg (fun x => (x, σ)) ((if_neg c1).trans ((if_pos c6).trans ((if_pos c17).trans (rfl))))) dX1_failed_21
    · refine lv_bipush (v := (-3)) hx hb dX1_failed_9 (by decide) ?_
      exact z_reti hx hb hr hlocks rfl hK hP hD hS (congrArg (fun x => (x, σ)) ((if_neg c1).trans ((if_neg c6).trans (rfl)))) dX1_failed_11
noncomputable def xf_value  (i : Int32) (σ : SX) : Int64 := if (xf_isFailedKept i σ) = 0 then 0 else ((x_fv σ) i.toNatClampNeg)
set_option maxRecDepth 100000 in
set_option maxHeartbeats 4000000 in
theorem cx_value (l : Launch) (D : va_G) (O : Nat → Nat) (K : Nat → ClassId) (ad : Nat → Nat) (i : Int32) (σ : SX)  : cL l yX1_value wsX1_value { frames := 1, cells := 0, slots := 0, locals := 100 } 0 0 D (xT K) (xW O K ad) σ [.ref (O 0), .int i] ((xf_value i σ), σ) := by
  intro sz
  refine z_start (cc := cX1_value) (maxL := 2) (ret := (some .long)) (Qc := fun A => va_Ql (fun r9 u9 => r9 = ((xf_value i σ), σ).1 ∧ u9 = ((xf_value i σ), σ).2) (zB D (xT K) (xW O K ad) A) A) sz (by decide) rfl (Nat.le_of_ble_eq_true rfl) ?_
  intro p e s m below meth c A X hA hK hP hD hS ls hl
  obtain ⟨hx, hb, hr, hml, hts, hown, hlocks, hnm⟩ := X
  have hown : s.vm.findClass RX1 = some m.cls := hown
  have hl : lv_has ls 2 [(0, .ref (O 0)), (1, .int i)] := hl
  have inW : ∀ w ∈ wsX10, w ∈ wsX1_value := fun w h => List.mem_cons_of_mem _ (List.mem_append_right _ h)
  have XX : CallFix p m c cX1_value 2 s _ wsX1_value RX1 := ⟨hx, hb, hml, hown, hts⟩
  have k35 := hts (.fieldLink RX1 35 "MailRoom" "failedValues" "[J") (List.mem_of_getElem? (i := 1) rfl)
  refine lv_aload_n hx hb dX1_value_0 rfl (lv_at hl 0 rfl) ?_
  refine lv_iload_n hx hb dX1_value_1 rfl (lv_at hl 1 rfl) ?_
  refine z_calli (As := [.int i]) (rest := []) XX (cx_isFailedKept l D O K ad i σ) (cwV 1 hts gX1_value_X1_isFailedKept rfl rfl rfl qX1_isFailedKept ⟨by decide, by decide⟩) (va_recv hK hP (ci := 1) (q0 := 0) rfl rfl) hK hP hD hS hA rfl hl.1 rfl (Nat.le_of_ble_eq_true rfl) dX1_value_2 ⟨Nat.zero_le _, Nat.zero_le _⟩ (fun H locs hP hD hS => ?_)
  refine lv_if_eq (tgt := 17) hx hb dX1_value_5 (by decide) (fun c5 => ?_) (fun c5 => ?_)
  · refine lv_lconst (v := 0) hx hb dX1_value_17 (by decide) ?_
    exact z_retl hx hb hr hlocks hK hP hD hS (congrArg (fun x => (x, σ)) ((if_pos c5).trans (rfl))) dX1_value_18
  · refine lv_aload_n hx hb dX1_value_8 rfl (lv_at hl 0 rfl) ?_
    refine x_ga_8 hx hb hts inW hown hK hP k35 dX1_value_9 ?_
    refine lv_iload_n hx hb dX1_value_12 rfl (lv_at hl 1 rfl) ?_
    refine x_ld_fv (f := (x_fv σ)) (i := i) hx hb hK hP (rfl) (xfk_in (by assumption)) dX1_value_13 ?_
    refine lv_goto (tgt := 18) hx hb dX1_value_14 (by decide) ?_
    exact z_retl hx hb hr hlocks hK hP hD hS (congrArg (fun x => (x, σ)) ((if_neg c5).trans (rfl))) dX1_value_18
noncomputable def xf_count  (what : Int32) (σ : SX) : Int32 := if what = 0 then (x_qs σ) else (if what = 1 then (x_tk σ) else (if what = 2 then (x_told σ) else (if what = 3 then (x_fl σ) else (if what = 4 then (x_bic σ) else (-3)))))
set_option maxRecDepth 100000 in
set_option maxHeartbeats 4000000 in
theorem cx_count (l : Launch) (D : va_G) (O : Nat → Nat) (K : Nat → ClassId) (ad : Nat → Nat) (what : Int32) (σ : SX)  : cI l yX1_count wsX1_count { frames := 0, cells := 0, slots := 0, locals := 0 } 0 0 D (xT K) (xW O K ad) σ [.ref (O 0), .int what] ((xf_count what σ), σ) := by
  intro sz
  refine z_start (cc := cX1_count) (maxL := 2) (ret := (some .int)) (Qc := fun A => va_Qi (fun r9 u9 => r9 = ((xf_count what σ), σ).1 ∧ u9 = ((xf_count what σ), σ).2) (zB D (xT K) (xW O K ad) A) A) sz (by decide) rfl (Nat.le_of_ble_eq_true rfl) ?_
  intro p e s m below meth c A X hA hK hP hD hS ls hl
  obtain ⟨hx, hb, hr, hml, hts, hown, hlocks, hnm⟩ := X
  have hown : s.vm.findClass RX1 = some m.cls := hown
  have hl : lv_has ls 2 [(0, .ref (O 0)), (1, .int what)] := hl
  have inW : ∀ w ∈ wsX10, w ∈ wsX1_count := fun w h => List.mem_cons_of_mem _ (List.mem_append_right _ h)
  have XX : CallFix p m c cX1_count 2 s _ wsX1_count RX1 := ⟨hx, hb, hml, hown, hts⟩
  have k63 := hts (.fieldLink RX1 63 "MailRoom" "queueSize" "I") (List.mem_of_getElem? (i := 1) rfl)
  have k81 := hts (.fieldLink RX1 81 "MailRoom" "taken" "I") (List.mem_of_getElem? (i := 2) rfl)
  have k51 := hts (.fieldLink RX1 51 "MailRoom" "told" "I") (List.mem_of_getElem? (i := 3) rfl)
  have k84 := hts (.fieldLink RX1 84 "MailRoom" "failures" "I") (List.mem_of_getElem? (i := 4) rfl)
  have k66 := hts (.fieldLink RX1 66 "MailRoom" "begunInCall" "I") (List.mem_of_getElem? (i := 5) rfl)
  refine lv_iload_n hx hb dX1_count_0 rfl (lv_at hl 1 rfl) ?_
  by_cases t1_0 : what = 0
  · refine lv_tableIn (off := 35) (tgt := 36) hx hb dX1_count_1 (by rw [t1_0]; decide) (by rw [t1_0]; decide) (by rw [t1_0]; rfl) (by decide) ?_
    refine lv_aload_n hx hb dX1_count_36 rfl (lv_at hl 0 rfl) ?_
    refine x_gi_qs (v := (x_qs σ)) hx hb hts inW hown hK hP (rfl) k63 dX1_count_37 ?_
    exact z_reti hx hb hr hlocks rfl hK hP hD hS (congrArg (fun x => (x, σ)) ((if_pos t1_0).trans (rfl))) dX1_count_40
  · by_cases t1_1 : what = 1
    · refine lv_tableIn (off := 40) (tgt := 41) hx hb dX1_count_1 (by rw [t1_1]; decide) (by rw [t1_1]; decide) (by rw [t1_1]; rfl) (by decide) ?_
      refine lv_aload_n hx hb dX1_count_41 rfl (lv_at hl 0 rfl) ?_
      refine x_gi_tk (v := (x_tk σ)) hx hb hts inW hown hK hP (rfl) k81 dX1_count_42 ?_
      exact z_reti hx hb hr hlocks rfl hK hP hD hS (congrArg (fun x => (x, σ)) ((if_neg t1_0).trans ((if_pos t1_1).trans (rfl)))) dX1_count_45
    · by_cases t1_2 : what = 2
      · refine lv_tableIn (off := 45) (tgt := 46) hx hb dX1_count_1 (by rw [t1_2]; decide) (by rw [t1_2]; decide) (by rw [t1_2]; rfl) (by decide) ?_
        refine lv_aload_n hx hb dX1_count_46 rfl (lv_at hl 0 rfl) ?_
        refine x_gi_told (v := (x_told σ)) hx hb hts inW hown hK hP (rfl) k51 dX1_count_47 ?_
        exact z_reti hx hb hr hlocks rfl hK hP hD hS (congrArg (fun x => (x, σ)) ((if_neg t1_0).trans ((if_neg t1_1).trans ((if_pos t1_2).trans (rfl))))) dX1_count_50
      · by_cases t1_3 : what = 3
        · refine lv_tableIn (off := 50) (tgt := 51) hx hb dX1_count_1 (by rw [t1_3]; decide) (by rw [t1_3]; decide) (by rw [t1_3]; rfl) (by decide) ?_
          refine lv_aload_n hx hb dX1_count_51 rfl (lv_at hl 0 rfl) ?_
          refine x_gi_fl (v := (x_fl σ)) hx hb hts inW hown hK hP (rfl) k84 dX1_count_52 ?_
          exact z_reti hx hb hr hlocks rfl hK hP hD hS (congrArg (fun x => (x, σ)) ((if_neg t1_0).trans ((if_neg t1_1).trans ((if_neg t1_2).trans ((if_pos t1_3).trans (rfl)))))) dX1_count_55
        · by_cases t1_4 : what = 4
          · refine lv_tableIn (off := 55) (tgt := 56) hx hb dX1_count_1 (by rw [t1_4]; decide) (by rw [t1_4]; decide) (by rw [t1_4]; rfl) (by decide) ?_
            refine lv_aload_n hx hb dX1_count_56 rfl (lv_at hl 0 rfl) ?_
            refine x_gi_bic (v := (x_bic σ)) hx hb hts inW hown hK hP (rfl) k66 dX1_count_57 ?_
            exact z_reti hx hb hr hlocks rfl hK hP hD hS (congrArg (fun x => (x, σ)) ((if_neg t1_0).trans ((if_neg t1_1).trans ((if_neg t1_2).trans ((if_neg t1_3).trans ((if_pos t1_4).trans (rfl))))))) dX1_count_60
          · refine lv_tableOut (tgt := 61) hx hb dX1_count_1 (z_out 4 (by decide) (fun k hk => match k, hk with | 0, _ => t1_0 | 1, _ => t1_1 | 2, _ => t1_2 | 3, _ => t1_3 | 4, _ => t1_4 | (k + 5), hk => absurd hk (by omega))) (by decide) ?_
            refine lv_bipush (v := (-3)) hx hb dX1_count_61 (by decide) ?_
            exact z_reti hx hb hr hlocks rfl hK hP hD hS (congrArg (fun x => (x, σ)) ((if_neg t1_0).trans ((if_neg t1_1).trans ((if_neg t1_2).trans ((if_neg t1_3).trans ((if_neg t1_4).trans (rfl))))))) dX1_count_63
