noncomputable def xf_beginB (ac : Nat → Int64 → Int32 → SX → Int32 × SX) (r : Option Nat) (v : Int64) (dp : Int32) (σ : SX) : Int32 × SX := if 8 < dp then (6, σ) else (if (x_bl σ) < 16 then (if r = none then (1, xs_bl σ ((x_bl σ) + 1)) else (ac (r.getD 0) v dp (xs_bl σ ((x_bl σ) + 1)))) else (6, σ))
set_option maxRecDepth 100000 in
set_option maxHeartbeats 4000000 in
theorem cx_beginB (l : Launch) (D : va_G) (O : Nat → Nat) (K : Nat → ClassId) (ad : Nat → Nat) (ac : Nat → Int64 → Int32 → SX → Int32 × SX) (d : Nat) (Hac : ∀ (j : Nat) (v : Int64) (dp : Int32) (σ : SX), xok σ → j < x_n σ → (∃ k, dp = nI k ∧ k + (d + 1) = 9) → cI l yX1_act wsX1_act (rmA d) 0 0 D (xT K) (xW O K ad) σ [.ref (O 0), .ref (ad j), .long v, .int dp] (ac j v dp σ)) (r : Option Nat) (v : Int64) (dp : Int32) (σ : SX) (hok : xok σ) (hokr : okr (x_n σ) r) (hd : ∃ k, dp = nI k ∧ k + (d + 1) = 9) : cI l yX1_begin wsX1_begin (rmB (d + 1)) 0 0 D (xT K) (xW O K ad) σ [.ref (O 0), va_re ad r, .long v, .int dp] (xf_beginB ac r v dp σ) := by
  intro sz
  refine z_start (cc := cX1_begin) (maxL := 5) (ret := (some .int)) (Qc := fun A => va_Qi (fun r9 u9 => r9 = (xf_beginB ac r v dp σ).1 ∧ u9 = (xf_beginB ac r v dp σ).2) (zB D (xT K) (xW O K ad) A) A) sz (by decide) rfl (by cases r <;> exact Nat.le_of_ble_eq_true rfl) ?_
  intro p e s m below meth c A X hA hK hP hD hS ls hl
  obtain ⟨hx, hb, hr, hml, hts, hown, hlocks, hnm⟩ := X
  have hown : s.vm.findClass RX1 = some m.cls := hown
  have hl : lv_has ls 5 [(0, .ref (O 0)), (1, va_re ad r), (2, .long v), (4, .int dp)] := by cases r <;> exact hl
  have inW : ∀ w ∈ wsX10, w ∈ wsX1_begin := fun w h => List.mem_cons_of_mem _ (List.mem_append_right _ h)
  have XX : CallFix p m c cX1_begin 5 s _ wsX1_begin RX1 := ⟨hx, hb, hml, hown, hts⟩
  have k94 := hts (.fieldLink RX1 94 "MailRoom" "begunForLetter" "I") (List.mem_of_getElem? (i := 1) rfl)
  refine lv_iload hx hb dX1_begin_0 (lv_at hl 3 rfl) ?_
  refine lv_bipush (v := 8) hx hb dX1_begin_2 (by decide) ?_
  refine lv_icmp_gt (tgt := 16) hx hb dX1_begin_4 (by decide) (fun c4 => ?_) (fun c4 => ?_)
  · refine lv_bipush (v := 6) hx hb dX1_begin_16 (by decide) ?_
    exact z_reti hx hb hr hlocks rfl hK hP hD hS ((if_pos c4).trans (rfl)) dX1_begin_18
  · refine lv_aload_n hx hb dX1_begin_7 rfl (lv_at hl 0 rfl) ?_
    refine x_gi_bl (v := (x_bl σ)) hx hb hts inW hown hK hP (rfl) k94 dX1_begin_8 ?_
    refine lv_bipush (v := 16) hx hb dX1_begin_11 (by decide) ?_
    refine lv_icmp_lt (tgt := 19) hx hb dX1_begin_13 (by decide) (fun c13 => ?_) (fun c13 => ?_)
    · refine lv_aload_n hx hb dX1_begin_19 rfl (lv_at hl 0 rfl) ?_
      refine lv_dup hx hb dX1_begin_20 rfl ?_
      refine x_gi_bl (v := (x_bl σ)) hx hb hts inW hown hK hP (rfl) k94 dX1_begin_21 ?_
      refine lv_iconst (v := 1) hx hb dX1_begin_24 (by decide) ?_
      refine lv_iadd hx hb dX1_begin_25 ?_
      refine x_pi_bl hx hb hts inW hown hK hP hD hS k94 dX1_begin_26 (fun H locs hP hD hS => ?_)
      refine z_aload_n hx hb dX1_begin_29 rfl (lv_at hl 1 rfl) ?_
      refine z_ifnonnull (tgt := 37) hx hb dX1_begin_30 (by decide) (fun c30 => ?_) (fun c30 => ?_)
      · obtain ⟨j, rfl⟩ := z_some c30
        have hj := hokr j rfl
        refine lv_aload_n hx hb dX1_begin_37 rfl (lv_at hl 0 rfl) ?_
        refine z_aload_n hx hb dX1_begin_38 rfl (lv_at hl 1 rfl) ?_
        refine lv_lload_n hx hb dX1_begin_39 rfl (lv_at hl 2 rfl) ?_
        refine lv_iload hx hb dX1_begin_40 (lv_at hl 3 rfl) ?_
        refine z_calli (As := [.ref (ad j), .long v, .int dp]) (rest := []) XX (Hac j v dp (xs_bl σ ((x_bl σ) + 1)) ((xpres.of (σ := σ) (τ := (xs_bl σ ((x_bl σ) + 1))) (xr_n_bl _ _) (xr_hd_bl _ _) (xr_tab_bl _ _)).2 (hok)) (z_ltE (xr_n_bl _ _) hj) hd) (cwV 3 hts gX1_begin_X1_act rfl rfl rfl qX1_act (by constructor <;> (simp only [rmB, rmS, rmA]; omega))) (va_recv hK hP (ci := 1) (q0 := 0) rfl rfl) hK hP hD hS hA rfl hl.1 rfl (Nat.le_of_ble_eq_true rfl) dX1_begin_42 ⟨Nat.zero_le _, Nat.zero_le _⟩ (fun H locs hP hD hS => ?_)
        exact z_reti hx hb hr hlocks rfl hK hP hD hS ((if_neg c4).trans ((if_pos c13).trans ((if_neg c30).trans (z_eta _)))) dX1_begin_45
      · refine lv_iconst (v := 1) hx hb dX1_begin_33 (by decide) ?_
        refine lv_goto (tgt := 45) hx hb dX1_begin_34 (by decide) ?_
        exact z_reti hx hb hr hlocks rfl hK hP hD hS ((if_neg c4).trans ((if_pos c13).trans ((if_pos c30).trans (rfl)))) dX1_begin_45
    · refine lv_bipush (v := 6) hx hb dX1_begin_16 (by decide) ?_
      exact z_reti hx hb hr hlocks rfl hK hP hD hS ((if_neg c4).trans ((if_neg c13).trans (rfl))) dX1_begin_18
set_option maxRecDepth 100000 in
set_option maxHeartbeats 4000000 in
theorem cx_begin0 (l : Launch) (D : va_G) (O : Nat → Nat) (K : Nat → ClassId) (ad : Nat → Nat) (r : Option Nat) (v : Int64) (dp : Int32) (σ : SX) (hd : ∃ k, dp = nI k ∧ k + 0 = 9) : cI l yX1_begin wsX1_begin (rmB 0) 0 0 D (xT K) (xW O K ad) σ [.ref (O 0), va_re ad r, .long v, .int dp] ((6 : Int32), σ) := by
  intro sz
  refine z_start (cc := cX1_begin) (maxL := 5) (ret := (some .int)) (Qc := fun A => va_Qi (fun r9 u9 => r9 = ((6 : Int32), σ).1 ∧ u9 = ((6 : Int32), σ).2) (zB D (xT K) (xW O K ad) A) A) sz (by decide) rfl (by cases r <;> exact Nat.le_of_ble_eq_true rfl) ?_
  intro p e s m below meth c A X hA hK hP hD hS ls hl
  obtain ⟨hx, hb, hr, hml, hts, hown, hlocks, hnm⟩ := X
  have hown : s.vm.findClass RX1 = some m.cls := hown
  have hl : lv_has ls 5 [(0, .ref (O 0)), (1, va_re ad r), (2, .long v), (4, .int dp)] := by cases r <;> exact hl
  have inW : ∀ w ∈ wsX10, w ∈ wsX1_begin := fun w h => List.mem_cons_of_mem _ (List.mem_append_right _ h)
  have XX : CallFix p m c cX1_begin 5 s _ wsX1_begin RX1 := ⟨hx, hb, hml, hown, hts⟩
  refine lv_iload hx hb dX1_begin_0 (lv_at hl 3 rfl) ?_
  refine lv_bipush (v := 8) hx hb dX1_begin_2 (by decide) ?_
  refine lv_icmp_gt (tgt := 16) hx hb dX1_begin_4 (by decide) (fun c4 => ?_) (fun c4 => ?_)
  · refine lv_bipush (v := 6) hx hb dX1_begin_16 (by decide) ?_
    exact z_reti hx hb hr hlocks rfl hK hP hD hS (rfl) dX1_begin_18
  · exact absurd (z_deep hd) c4
