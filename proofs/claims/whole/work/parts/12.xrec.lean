def rmB (d : Nat) : Room := { frames := 10 * d + 4, cells := 0, slots := 0, locals := 1000 * d + 400 }
def rmS (d : Nat) : Room := { frames := 10 * d + 8, cells := 0, slots := 0, locals := 1000 * d + 800 }
def rmA (d : Nat) : Room := { frames := 10 * d + 12, cells := 0, slots := 0, locals := 1000 * d + 1200 }
def xBG (l : Launch) (D : va_G) (O : Nat → Nat) (K : Nat → ClassId) (ad : Nat → Nat) (bg : Option Nat → Int64 → Int32 → SX → Int32 × SX) (d : Nat) : Prop :=
  ∀ (r : Option Nat) (v : Int64) (dp : Int32) (σ : SX), xok σ → okr (x_n σ) r → (∃ k, dp = nI k ∧ k + d = 9) → cI l yX1_begin wsX1_begin (rmB d) 0 0 D (xT K) (xW O K ad) σ [.ref (O 0), va_re ad r, .long v, .int dp] (bg r v dp σ)
def xBP (bg : Option Nat → Int64 → Int32 → SX → Int32 × SX) : Prop := ∀ (r : Option Nat) (v : Int64) (dp : Int32) (σ : SX), xok σ → okr (x_n σ) r → xpres σ (bg r v dp σ).2
theorem z_dp {dp : Int32} {d : Nat} (h : ∃ k, dp = nI k ∧ k + (d + 1) = 9) : ∃ k, dp + 1 = nI k ∧ k + d = 9 := by
  obtain ⟨k, rfl, h2⟩ := h
  exact ⟨k + 1, nI_1 k, by omega⟩
theorem z_some {r : Option Nat} (h : ¬ r = none) : ∃ j, r = some j := by
  cases r with
  | none => exact absurd rfl h
  | some j => exact ⟨j, rfl⟩
theorem z_deep {dp : Int32} (h : ∃ k, dp = nI k ∧ k + 0 = 9) : 8 < dp := by
  obtain ⟨k, rfl, h2⟩ := h
  have : k = 9 := by omega
  subst this
  decide
noncomputable def xf_sift (bg : Option Nat → Int64 → Int32 → SX → Int32 × SX) (j : Nat) (v : Int64) (dp : Int32) (σ : SX) : Int32 × SX := if (lg_cmp (h_c ((x_tab σ) j)) 0) = 0 then (2, σ) else (if (lg_cmp (v - v / (h_c ((x_tab σ) j)) * (h_c ((x_tab σ) j))) (((h_a ((x_tab σ) j))).toInt64)) = 0 then (bg (h_former ((x_tab σ) j)) v (dp + 1) σ) else (0, σ))
set_option maxRecDepth 100000 in
set_option maxHeartbeats 4000000 in
theorem cx_sift (l : Launch) (D : va_G) (O : Nat → Nat) (K : Nat → ClassId) (ad : Nat → Nat) (bg : Option Nat → Int64 → Int32 → SX → Int32 × SX) (d : Nat) (Hbg : xBG l D O K ad bg d) (Hbp : xBP bg) (j : Nat) (v : Int64) (dp : Int32) (σ : SX) (hok : xok σ) (hj : j < x_n σ) (hd : ∃ k, dp = nI k ∧ k + (d + 1) = 9) : cI l yX1_sift wsX1_sift (rmS d) 0 0 D (xT K) (xW O K ad) σ [.ref (O 0), .ref (ad j), .long v, .int dp] (xf_sift bg j v dp σ) := by
  intro sz
  refine z_start (cc := cX1_sift) (maxL := 5) (ret := (some .int)) (Qc := fun A => va_Qi (fun r9 u9 => r9 = (xf_sift bg j v dp σ).1 ∧ u9 = (xf_sift bg j v dp σ).2) (zB D (xT K) (xW O K ad) A) A) sz (by decide) rfl (Nat.le_of_ble_eq_true rfl) ?_
  intro p e s m below meth c A X hA hK hP hD hS ls hl
  obtain ⟨hx, hb, hr, hml, hts, hown, hlocks, hnm⟩ := X
  have hown : s.vm.findClass RX1 = some m.cls := hown
  have hl : lv_has ls 5 [(0, .ref (O 0)), (1, .ref (ad j)), (2, .long v), (4, .int dp)] := hl
  have inW : ∀ w ∈ wsX10, w ∈ wsX1_sift := fun w h => List.mem_cons_of_mem _ (List.mem_append_right _ h)
  have inX0 : ∀ w ∈ wsX00, w ∈ wsX1_sift := fun w h => List.mem_cons_of_mem _ (List.mem_append_left _ (List.mem_append_right _ h))
  have XX : CallFix p m c cX1_sift 5 s _ wsX1_sift RX1 := ⟨hx, hb, hml, hown, hts⟩
  have k113 := hts (.fieldLink RX1 113 "MailRoom$Handler" "c" "J") (List.mem_of_getElem? (i := 1) rfl)
  have k107 := hts (.fieldLink RX1 107 "MailRoom$Handler" "a" "I") (List.mem_of_getElem? (i := 2) rfl)
  have k146 := hts (.fieldLink RX1 146 "MailRoom$Handler" "former" "LMailRoom$Handler;") (List.mem_of_getElem? (i := 3) rfl)
  refine lv_aload_n hx hb dX1_sift_0 rfl (lv_at hl 1 rfl) ?_
  refine x_getH (v := .long (h_c ((x_tab σ) j))) (T := (x_tab σ)) hx hb hts inX0 hown hK hP (rfl) (hj) 4 (by decide) k113 rfl dX1_sift_1 ?_
  refine lv_lconst (v := 0) hx hb dX1_sift_4 (by decide) ?_
  refine W.lcmp hx hb dX1_sift_5 ?_
  refine lv_if_ne (tgt := 11) hx hb dX1_sift_6 (by decide) (fun c6 => ?_) (fun c6 => ?_)
  · refine lv_lload_n hx hb dX1_sift_11 rfl (lv_at hl 2 rfl) ?_
    refine lv_aload_n hx hb dX1_sift_12 rfl (lv_at hl 1 rfl) ?_
    refine x_getH (v := .long (h_c ((x_tab σ) j))) (T := (x_tab σ)) hx hb hts inX0 hown hK hP (rfl) (hj) 4 (by decide) k113 rfl dX1_sift_13 ?_
    refine lv_lrem hx hb dX1_sift_16 (z_l0 c6) ?_
    refine lv_aload_n hx hb dX1_sift_17 rfl (lv_at hl 1 rfl) ?_
    refine x_getH (v := .int (h_a ((x_tab σ) j))) (T := (x_tab σ)) hx hb hts inX0 hown hK hP (rfl) (hj) 2 (by decide) k107 rfl dX1_sift_18 ?_
    refine lv_i2l (v := ((h_a ((x_tab σ) j))).toInt64) hx hb dX1_sift_21 rfl ?_
    refine W.lcmp hx hb dX1_sift_22 ?_
    refine lv_if_ne (tgt := 42) hx hb dX1_sift_23 (by decide) (fun c23 => ?_) (fun c23 => ?_)
    · refine lv_iconst (v := 0) hx hb dX1_sift_42 (by decide) ?_
      exact z_reti hx hb hr hlocks rfl hK hP hD hS ((if_neg c6).trans ((if_neg c23).trans (rfl))) dX1_sift_43
    · refine lv_aload_n hx hb dX1_sift_26 rfl (lv_at hl 0 rfl) ?_
      refine lv_aload_n hx hb dX1_sift_27 rfl (lv_at hl 1 rfl) ?_
      refine x_getH (v := va_re ad (h_former ((x_tab σ) j))) (T := (x_tab σ)) hx hb hts inX0 hown hK hP (rfl) (hj) 5 (by decide) k146 rfl dX1_sift_28 ?_
      refine lv_lload_n hx hb dX1_sift_31 rfl (lv_at hl 2 rfl) ?_
      refine lv_iload hx hb dX1_sift_32 (lv_at hl 3 rfl) ?_
      refine lv_iconst (v := 1) hx hb dX1_sift_34 (by decide) ?_
      refine lv_iadd hx hb dX1_sift_35 ?_
      refine z_calli (As := [va_re ad (h_former ((x_tab σ) j)), .long v, .int (dp + 1)]) (rest := []) XX (Hbg (h_former ((x_tab σ) j)) v (dp + 1) σ (hok) (((hok).2 _).1) (z_dp hd)) (cwV 3 hts gX1_sift_X1_begin rfl rfl rfl qX1_begin (by constructor <;> (simp only [rmB, rmS, rmA]; omega))) (va_recv hK hP (ci := 1) (q0 := 0) rfl rfl) hK hP hD hS hA rfl hl.1 rfl (Nat.le_of_ble_eq_true rfl) dX1_sift_36 ⟨Nat.zero_le _, Nat.zero_le _⟩ (fun H locs hP hD hS => ?_)
      have hp36 : xpres σ (bg (h_former ((x_tab σ) j)) v (dp + 1) σ).2 := Hbp _ _ _ _ (hok) (((hok).2 _).1)
      have hj36 : j < x_n (bg (h_former ((x_tab σ) j)) v (dp + 1) σ).2 := by rw [hp36.1]; exact hj
      have hok36 : xok (bg (h_former ((x_tab σ) j)) v (dp + 1) σ).2 := hp36.2 (hok)
      refine lv_goto (tgt := 43) hx hb dX1_sift_39 (by decide) ?_
      exact z_reti hx hb hr hlocks rfl hK hP hD hS ((if_neg c6).trans ((if_pos c23).trans (z_eta _))) dX1_sift_43
  · refine lv_iconst (v := 2) hx hb dX1_sift_9 (by decide) ?_
    exact z_reti hx hb hr hlocks rfl hK hP hD hS ((if_pos c6).trans (rfl)) dX1_sift_10
noncomputable def xf_limit (bg : Option Nat → Int64 → Int32 → SX → Int32 × SX) (j : Nat) (v : Int64) (dp : Int32) (σ : SX) : Int32 × SX := if (h_begun ((x_tab σ) j)) < (h_b ((x_tab σ) j)) then (bg (h_former ((va_up (x_tab σ) j (hs_begun ((x_tab σ) j) ((h_begun ((x_tab σ) j)) + 1))) j)) v (dp + 1) (xs_tab σ (va_up (x_tab σ) j (hs_begun ((x_tab σ) j) ((h_begun ((x_tab σ) j)) + 1))))) else (4, σ)
set_option maxRecDepth 100000 in
set_option maxHeartbeats 4000000 in
theorem cx_limit (l : Launch) (D : va_G) (O : Nat → Nat) (K : Nat → ClassId) (ad : Nat → Nat) (bg : Option Nat → Int64 → Int32 → SX → Int32 × SX) (d : Nat) (Hbg : xBG l D O K ad bg d) (Hbp : xBP bg) (j : Nat) (v : Int64) (dp : Int32) (σ : SX) (hok : xok σ) (hj : j < x_n σ) (hd : ∃ k, dp = nI k ∧ k + (d + 1) = 9) : cI l yX1_limit wsX1_limit (rmS d) 0 0 D (xT K) (xW O K ad) σ [.ref (O 0), .ref (ad j), .long v, .int dp] (xf_limit bg j v dp σ) := by
  intro sz
  refine z_start (cc := cX1_limit) (maxL := 5) (ret := (some .int)) (Qc := fun A => va_Qi (fun r9 u9 => r9 = (xf_limit bg j v dp σ).1 ∧ u9 = (xf_limit bg j v dp σ).2) (zB D (xT K) (xW O K ad) A) A) sz (by decide) rfl (Nat.le_of_ble_eq_true rfl) ?_
  intro p e s m below meth c A X hA hK hP hD hS ls hl
  obtain ⟨hx, hb, hr, hml, hts, hown, hlocks, hnm⟩ := X
  have hown : s.vm.findClass RX1 = some m.cls := hown
  have hl : lv_has ls 5 [(0, .ref (O 0)), (1, .ref (ad j)), (2, .long v), (4, .int dp)] := hl
  have inW : ∀ w ∈ wsX10, w ∈ wsX1_limit := fun w h => List.mem_cons_of_mem _ (List.mem_append_right _ h)
  have inX0 : ∀ w ∈ wsX00, w ∈ wsX1_limit := fun w h => List.mem_cons_of_mem _ (List.mem_append_left _ (List.mem_append_right _ h))
  have XX : CallFix p m c cX1_limit 5 s _ wsX1_limit RX1 := ⟨hx, hb, hml, hown, hts⟩
  have k149 := hts (.fieldLink RX1 149 "MailRoom$Handler" "begun" "I") (List.mem_of_getElem? (i := 1) rfl)
  have k152 := hts (.fieldLink RX1 152 "MailRoom$Handler" "b" "I") (List.mem_of_getElem? (i := 2) rfl)
  have k146 := hts (.fieldLink RX1 146 "MailRoom$Handler" "former" "LMailRoom$Handler;") (List.mem_of_getElem? (i := 3) rfl)
  refine lv_aload_n hx hb dX1_limit_0 rfl (lv_at hl 1 rfl) ?_
  refine x_getH (v := .int (h_begun ((x_tab σ) j))) (T := (x_tab σ)) hx hb hts inX0 hown hK hP (rfl) (hj) 7 (by decide) k149 rfl dX1_limit_1 ?_
  refine lv_aload_n hx hb dX1_limit_4 rfl (lv_at hl 1 rfl) ?_
  refine x_getH (v := .int (h_b ((x_tab σ) j))) (T := (x_tab σ)) hx hb hts inX0 hown hK hP (rfl) (hj) 3 (by decide) k152 rfl dX1_limit_5 ?_
  refine lv_icmp_lt (tgt := 13) hx hb dX1_limit_8 (by decide) (fun c8 => ?_) (fun c8 => ?_)
  · refine lv_aload_n hx hb dX1_limit_13 rfl (lv_at hl 1 rfl) ?_
    refine lv_dup hx hb dX1_limit_14 rfl ?_
    refine x_getH (v := .int (h_begun ((x_tab σ) j))) (T := (x_tab σ)) hx hb hts inX0 hown hK hP (rfl) (hj) 7 (by decide) k149 rfl dX1_limit_15 ?_
    refine lv_iconst (v := 1) hx hb dX1_limit_18 (by decide) ?_
    refine lv_iadd hx hb dX1_limit_19 ?_
    refine x_putH hx hb hts inX0 hown hK hP hD hS (hj) k149 dX1_limit_20 (fun H locs hP hD hS => ?_)
    refine lv_aload_n hx hb dX1_limit_23 rfl (lv_at hl 0 rfl) ?_
    refine lv_aload_n hx hb dX1_limit_24 rfl (lv_at hl 1 rfl) ?_
    refine x_getH (v := va_re ad (h_former ((va_up (x_tab σ) j (hs_begun ((x_tab σ) j) ((h_begun ((x_tab σ) j)) + 1))) j))) (T := (va_up (x_tab σ) j (hs_begun ((x_tab σ) j) ((h_begun ((x_tab σ) j)) + 1)))) hx hb hts inX0 hown hK hP (xw_tab _ _) (z_ltE (xr_n_tab _ _) hj) 5 (by decide) k146 rfl dX1_limit_25 ?_
    refine lv_lload_n hx hb dX1_limit_28 rfl (lv_at hl 2 rfl) ?_
    refine lv_iload hx hb dX1_limit_29 (lv_at hl 3 rfl) ?_
    refine lv_iconst (v := 1) hx hb dX1_limit_31 (by decide) ?_
    refine lv_iadd hx hb dX1_limit_32 ?_
    refine z_calli (As := [va_re ad (h_former ((va_up (x_tab σ) j (hs_begun ((x_tab σ) j) ((h_begun ((x_tab σ) j)) + 1))) j)), .long v, .int (dp + 1)]) (rest := []) XX (Hbg (h_former ((va_up (x_tab σ) j (hs_begun ((x_tab σ) j) ((h_begun ((x_tab σ) j)) + 1))) j)) v (dp + 1) (xs_tab σ (va_up (x_tab σ) j (hs_begun ((x_tab σ) j) ((h_begun ((x_tab σ) j)) + 1)))) (xok_begun (hok)) (((xok_begun (hok)).2 _).1) (z_dp hd)) (cwV 3 hts gX1_limit_X1_begin rfl rfl rfl qX1_begin (by constructor <;> (simp only [rmB, rmS, rmA]; omega))) (va_recv hK hP (ci := 1) (q0 := 0) rfl rfl) hK hP hD hS hA rfl hl.1 rfl (Nat.le_of_ble_eq_true rfl) dX1_limit_33 ⟨Nat.zero_le _, Nat.zero_le _⟩ (fun H locs hP hD hS => ?_)
    have hp33 : xpres (xs_tab σ (va_up (x_tab σ) j (hs_begun ((x_tab σ) j) ((h_begun ((x_tab σ) j)) + 1)))) (bg (h_former ((va_up (x_tab σ) j (hs_begun ((x_tab σ) j) ((h_begun ((x_tab σ) j)) + 1))) j)) v (dp + 1) (xs_tab σ (va_up (x_tab σ) j (hs_begun ((x_tab σ) j) ((h_begun ((x_tab σ) j)) + 1))))).2 := Hbp _ _ _ _ (xok_begun (hok)) (((xok_begun (hok)).2 _).1)
    have hj33 : j < x_n (bg (h_former ((va_up (x_tab σ) j (hs_begun ((x_tab σ) j) ((h_begun ((x_tab σ) j)) + 1))) j)) v (dp + 1) (xs_tab σ (va_up (x_tab σ) j (hs_begun ((x_tab σ) j) ((h_begun ((x_tab σ) j)) + 1))))).2 := by rw [hp33.1]; exact z_ltE (xr_n_tab _ _) hj
    have hok33 : xok (bg (h_former ((va_up (x_tab σ) j (hs_begun ((x_tab σ) j) ((h_begun ((x_tab σ) j)) + 1))) j)) v (dp + 1) (xs_tab σ (va_up (x_tab σ) j (hs_begun ((x_tab σ) j) ((h_begun ((x_tab σ) j)) + 1))))).2 := hp33.2 (xok_begun (hok))
    exact z_reti hx hb hr hlocks rfl hK hP hD hS ((if_pos c8).trans (z_eta _)) dX1_limit_36
  · refine lv_iconst (v := 4) hx hb dX1_limit_11 (by decide) ?_
    exact z_reti hx hb hr hlocks rfl hK hP hD hS ((if_neg c8).trans (rfl)) dX1_limit_12
noncomputable def xf_both (bg : Option Nat → Int64 → Int32 → SX → Int32 × SX) (j : Nat) (v : Int64) (dp : Int32) (σ : SX) : Int32 × SX := if (bg (h_former ((x_tab σ) j)) v (dp + 1) σ).1 = 0 then (bg (h_other ((x_tab ((bg (h_former ((x_tab σ) j)) v (dp + 1) σ).2)) j)) v (dp + 1) ((bg (h_former ((x_tab σ) j)) v (dp + 1) σ).2)) else (bg (h_former ((x_tab σ) j)) v (dp + 1) σ)
set_option maxRecDepth 100000 in
set_option maxHeartbeats 4000000 in
theorem cx_both (l : Launch) (D : va_G) (O : Nat → Nat) (K : Nat → ClassId) (ad : Nat → Nat) (bg : Option Nat → Int64 → Int32 → SX → Int32 × SX) (d : Nat) (Hbg : xBG l D O K ad bg d) (Hbp : xBP bg) (j : Nat) (v : Int64) (dp : Int32) (σ : SX) (hok : xok σ) (hj : j < x_n σ) (hd : ∃ k, dp = nI k ∧ k + (d + 1) = 9) : cI l yX1_both wsX1_both (rmS d) 0 0 D (xT K) (xW O K ad) σ [.ref (O 0), .ref (ad j), .long v, .int dp] (xf_both bg j v dp σ) := by
  intro sz
  refine z_start (cc := cX1_both) (maxL := 6) (ret := (some .int)) (Qc := fun A => va_Qi (fun r9 u9 => r9 = (xf_both bg j v dp σ).1 ∧ u9 = (xf_both bg j v dp σ).2) (zB D (xT K) (xW O K ad) A) A) sz (by decide) rfl (Nat.le_of_ble_eq_true rfl) ?_
  intro p e s m below meth c A X hA hK hP hD hS ls hl
  obtain ⟨hx, hb, hr, hml, hts, hown, hlocks, hnm⟩ := X
  have hown : s.vm.findClass RX1 = some m.cls := hown
  have hl : lv_has ls 6 [(0, .ref (O 0)), (1, .ref (ad j)), (2, .long v), (4, .int dp)] := hl
  have inW : ∀ w ∈ wsX10, w ∈ wsX1_both := fun w h => List.mem_cons_of_mem _ (List.mem_append_right _ h)
  have inX0 : ∀ w ∈ wsX00, w ∈ wsX1_both := fun w h => List.mem_cons_of_mem _ (List.mem_append_left _ (List.mem_append_right _ h))
  have XX : CallFix p m c cX1_both 6 s _ wsX1_both RX1 := ⟨hx, hb, hml, hown, hts⟩
  have k146 := hts (.fieldLink RX1 146 "MailRoom$Handler" "former" "LMailRoom$Handler;") (List.mem_of_getElem? (i := 1) rfl)
  have k117 := hts (.fieldLink RX1 117 "MailRoom$Handler" "other" "LMailRoom$Handler;") (List.mem_of_getElem? (i := 2) rfl)
  refine lv_aload_n hx hb dX1_both_0 rfl (lv_at hl 0 rfl) ?_
  refine lv_aload_n hx hb dX1_both_1 rfl (lv_at hl 1 rfl) ?_
  refine x_getH (v := va_re ad (h_former ((x_tab σ) j))) (T := (x_tab σ)) hx hb hts inX0 hown hK hP (rfl) (hj) 5 (by decide) k146 rfl dX1_both_2 ?_
  refine lv_lload_n hx hb dX1_both_5 rfl (lv_at hl 2 rfl) ?_
  refine lv_iload hx hb dX1_both_6 (lv_at hl 3 rfl) ?_
  refine lv_iconst (v := 1) hx hb dX1_both_8 (by decide) ?_
  refine lv_iadd hx hb dX1_both_9 ?_
  refine z_calli (As := [va_re ad (h_former ((x_tab σ) j)), .long v, .int (dp + 1)]) (rest := []) XX (Hbg (h_former ((x_tab σ) j)) v (dp + 1) σ (hok) (((hok).2 _).1) (z_dp hd)) (cwV 3 hts gX1_both_X1_begin rfl rfl rfl qX1_begin (by constructor <;> (simp only [rmB, rmS, rmA]; omega))) (va_recv hK hP (ci := 1) (q0 := 0) rfl rfl) hK hP hD hS hA rfl hl.1 rfl (Nat.le_of_ble_eq_true rfl) dX1_both_10 ⟨Nat.zero_le _, Nat.zero_le _⟩ (fun H locs hP hD hS => ?_)
  have hp10 : xpres σ (bg (h_former ((x_tab σ) j)) v (dp + 1) σ).2 := Hbp _ _ _ _ (hok) (((hok).2 _).1)
  have hj10 : j < x_n (bg (h_former ((x_tab σ) j)) v (dp + 1) σ).2 := by rw [hp10.1]; exact hj
  have hok10 : xok (bg (h_former ((x_tab σ) j)) v (dp + 1) σ).2 := hp10.2 (hok)
  refine lv_istore (lv' := [(5, .int ((bg (h_former ((x_tab σ) j)) v (dp + 1) σ).1)), (0, .ref (O 0)), (1, .ref (ad j)), (2, .long v), (4, .int dp)]) hx hb dX1_both_13 hl (by decide) rfl (fun ls hl => ?_)
  refine lv_iload hx hb dX1_both_15 (lv_at hl 0 rfl) ?_
  refine lv_if_ne (tgt := 36) hx hb dX1_both_17 (by decide) (fun c17 => ?_) (fun c17 => ?_)
  · refine lv_iload hx hb dX1_both_36 (lv_at hl 0 rfl) ?_
    exact z_reti hx hb hr hlocks rfl hK hP hD hS ((if_neg c17).trans (z_eta _)) dX1_both_38
  · refine lv_aload_n hx hb dX1_both_20 rfl (lv_at hl 1 rfl) ?_
    refine lv_aload_n hx hb dX1_both_21 rfl (lv_at hl 2 rfl) ?_
    refine x_getH (v := va_re ad (h_other ((x_tab ((bg (h_former ((x_tab σ) j)) v (dp + 1) σ).2)) j))) (T := (x_tab ((bg (h_former ((x_tab σ) j)) v (dp + 1) σ).2))) hx hb hts inX0 hown hK hP (rfl) (hj10) 6 (by decide) k117 rfl dX1_both_22 ?_
    refine lv_lload_n hx hb dX1_both_25 rfl (lv_at hl 3 rfl) ?_
    refine lv_iload hx hb dX1_both_26 (lv_at hl 4 rfl) ?_
    refine lv_iconst (v := 1) hx hb dX1_both_28 (by decide) ?_
    refine lv_iadd hx hb dX1_both_29 ?_
    refine z_calli (As := [va_re ad (h_other ((x_tab ((bg (h_former ((x_tab σ) j)) v (dp + 1) σ).2)) j)), .long v, .int (dp + 1)]) (rest := []) XX (Hbg (h_other ((x_tab ((bg (h_former ((x_tab σ) j)) v (dp + 1) σ).2)) j)) v (dp + 1) ((bg (h_former ((x_tab σ) j)) v (dp + 1) σ).2) (hok10) (((hok10).2 _).2) (z_dp hd)) (cwV 3 hts gX1_both_X1_begin rfl rfl rfl qX1_begin (by constructor <;> (simp only [rmB, rmS, rmA]; omega))) (va_recv hK hP (ci := 1) (q0 := 0) rfl rfl) hK hP hD hS hA rfl hl.1 rfl (Nat.le_of_ble_eq_true rfl) dX1_both_30 ⟨Nat.zero_le _, Nat.zero_le _⟩ (fun H locs hP hD hS => ?_)
    have hp30 : xpres ((bg (h_former ((x_tab σ) j)) v (dp + 1) σ).2) (bg (h_other ((x_tab ((bg (h_former ((x_tab σ) j)) v (dp + 1) σ).2)) j)) v (dp + 1) ((bg (h_former ((x_tab σ) j)) v (dp + 1) σ).2)).2 := Hbp _ _ _ _ (hok10) (((hok10).2 _).2)
    have hj30 : j < x_n (bg (h_other ((x_tab ((bg (h_former ((x_tab σ) j)) v (dp + 1) σ).2)) j)) v (dp + 1) ((bg (h_former ((x_tab σ) j)) v (dp + 1) σ).2)).2 := by rw [hp30.1]; exact hj10
    have hok30 : xok (bg (h_other ((x_tab ((bg (h_former ((x_tab σ) j)) v (dp + 1) σ).2)) j)) v (dp + 1) ((bg (h_former ((x_tab σ) j)) v (dp + 1) σ).2)).2 := hp30.2 (hok10)
    refine lv_goto (tgt := 38) hx hb dX1_both_33 (by decide) ?_
    exact z_reti hx hb hr hlocks rfl hK hP hD hS ((if_pos c17).trans (z_eta _)) dX1_both_38
noncomputable def xf_keepFailure (bg : Option Nat → Int64 → Int32 → SX → Int32 × SX) (j : Nat) (v : Int64) (dp : Int32) (σ : SX) : Int32 × SX := if (bg (h_former ((x_tab σ) j)) v (dp + 1) σ).1 = 0 then (bg (h_former ((x_tab σ) j)) v (dp + 1) σ) else (if (bg (h_former ((x_tab σ) j)) v (dp + 1) σ).1 = 6 then (bg (h_former ((x_tab σ) j)) v (dp + 1) σ) else (xf_keep (h_a ((x_tab ((bg (h_former ((x_tab σ) j)) v (dp + 1) σ).2)) j)) (((bg (h_former ((x_tab σ) j)) v (dp + 1) σ).1).toInt64) ((bg (h_former ((x_tab σ) j)) v (dp + 1) σ).2)))
set_option maxRecDepth 100000 in
set_option maxHeartbeats 4000000 in
theorem cx_keepFailure (l : Launch) (D : va_G) (O : Nat → Nat) (K : Nat → ClassId) (ad : Nat → Nat) (bg : Option Nat → Int64 → Int32 → SX → Int32 × SX) (d : Nat) (Hbg : xBG l D O K ad bg d) (Hbp : xBP bg) (j : Nat) (v : Int64) (dp : Int32) (σ : SX) (hok : xok σ) (hj : j < x_n σ) (hd : ∃ k, dp = nI k ∧ k + (d + 1) = 9) : cI l yX1_keepFailure wsX1_keepFailure (rmS d) 0 0 D (xT K) (xW O K ad) σ [.ref (O 0), .ref (ad j), .long v, .int dp] (xf_keepFailure bg j v dp σ) := by
  intro sz
  refine z_start (cc := cX1_keepFailure) (maxL := 6) (ret := (some .int)) (Qc := fun A => va_Qi (fun r9 u9 => r9 = (xf_keepFailure bg j v dp σ).1 ∧ u9 = (xf_keepFailure bg j v dp σ).2) (zB D (xT K) (xW O K ad) A) A) sz (by decide) rfl (Nat.le_of_ble_eq_true rfl) ?_
  intro p e s m below meth c A X hA hK hP hD hS ls hl
  obtain ⟨hx, hb, hr, hml, hts, hown, hlocks, hnm⟩ := X
  have hown : s.vm.findClass RX1 = some m.cls := hown
  have hl : lv_has ls 6 [(0, .ref (O 0)), (1, .ref (ad j)), (2, .long v), (4, .int dp)] := hl
  have inW : ∀ w ∈ wsX10, w ∈ wsX1_keepFailure := fun w h => List.mem_cons_of_mem _ (List.mem_append_right _ h)
  have inX0 : ∀ w ∈ wsX00, w ∈ wsX1_keepFailure := fun w h => List.mem_cons_of_mem _ (List.mem_append_left _ (List.mem_append_right _ h))
  have XX : CallFix p m c cX1_keepFailure 6 s _ wsX1_keepFailure RX1 := ⟨hx, hb, hml, hown, hts⟩
  have k146 := hts (.fieldLink RX1 146 "MailRoom$Handler" "former" "LMailRoom$Handler;") (List.mem_of_getElem? (i := 1) rfl)
  have k107 := hts (.fieldLink RX1 107 "MailRoom$Handler" "a" "I") (List.mem_of_getElem? (i := 2) rfl)
  refine lv_aload_n hx hb dX1_keepFailure_0 rfl (lv_at hl 0 rfl) ?_
  refine lv_aload_n hx hb dX1_keepFailure_1 rfl (lv_at hl 1 rfl) ?_
  refine x_getH (v := va_re ad (h_former ((x_tab σ) j))) (T := (x_tab σ)) hx hb hts inX0 hown hK hP (rfl) (hj) 5 (by decide) k146 rfl dX1_keepFailure_2 ?_
  refine lv_lload_n hx hb dX1_keepFailure_5 rfl (lv_at hl 2 rfl) ?_
  refine lv_iload hx hb dX1_keepFailure_6 (lv_at hl 3 rfl) ?_
  refine lv_iconst (v := 1) hx hb dX1_keepFailure_8 (by decide) ?_
  refine lv_iadd hx hb dX1_keepFailure_9 ?_
  refine z_calli (As := [va_re ad (h_former ((x_tab σ) j)), .long v, .int (dp + 1)]) (rest := []) XX (Hbg (h_former ((x_tab σ) j)) v (dp + 1) σ (hok) (((hok).2 _).1) (z_dp hd)) (cwV 3 hts gX1_keepFailure_X1_begin rfl rfl rfl qX1_begin (by constructor <;> (simp only [rmB, rmS, rmA]; omega))) (va_recv hK hP (ci := 1) (q0 := 0) rfl rfl) hK hP hD hS hA rfl hl.1 rfl (Nat.le_of_ble_eq_true rfl) dX1_keepFailure_10 ⟨Nat.zero_le _, Nat.zero_le _⟩ (fun H locs hP hD hS => ?_)
  have hp10 : xpres σ (bg (h_former ((x_tab σ) j)) v (dp + 1) σ).2 := Hbp _ _ _ _ (hok) (((hok).2 _).1)
  have hj10 : j < x_n (bg (h_former ((x_tab σ) j)) v (dp + 1) σ).2 := by rw [hp10.1]; exact hj
  have hok10 : xok (bg (h_former ((x_tab σ) j)) v (dp + 1) σ).2 := hp10.2 (hok)
  refine lv_istore (lv' := [(5, .int ((bg (h_former ((x_tab σ) j)) v (dp + 1) σ).1)), (0, .ref (O 0)), (1, .ref (ad j)), (2, .long v), (4, .int dp)]) hx hb dX1_keepFailure_13 hl (by decide) rfl (fun ls hl => ?_)
  refine lv_iload hx hb dX1_keepFailure_15 (lv_at hl 0 rfl) ?_
  refine lv_if_eq (tgt := 27) hx hb dX1_keepFailure_17 (by decide) (fun c17 => ?_) (fun c17 => ?_)
  · refine lv_iload hx hb dX1_keepFailure_27 (lv_at hl 0 rfl) ?_
    refine lv_goto (tgt := 43) hx hb dX1_keepFailure_29 (by decide) ?_
    exact z_reti hx hb hr hlocks rfl hK hP hD hS ((if_pos c17).trans (z_eta _)) dX1_keepFailure_43
  · refine lv_iload hx hb dX1_keepFailure_20 (lv_at hl 0 rfl) ?_
    refine lv_bipush (v := 6) hx hb dX1_keepFailure_22 (by decide) ?_
    refine lv_icmp_ne (tgt := 32) hx hb dX1_keepFailure_24 (by decide) (fun c24 => ?_) (fun c24 => ?_)
    · refine lv_aload_n hx hb dX1_keepFailure_32 rfl (lv_at hl 1 rfl) ?_
      refine lv_aload_n hx hb dX1_keepFailure_33 rfl (lv_at hl 2 rfl) ?_
      refine x_getH (v := .int (h_a ((x_tab ((bg (h_former ((x_tab σ) j)) v (dp + 1) σ).2)) j))) (T := (x_tab ((bg (h_former ((x_tab σ) j)) v (dp + 1) σ).2))) hx hb hts inX0 hown hK hP (rfl) (hj10) 2 (by decide) k107 rfl dX1_keepFailure_34 ?_
      refine lv_iload hx hb dX1_keepFailure_37 (lv_at hl 0 rfl) ?_
      refine lv_i2l (v := ((bg (h_former ((x_tab σ) j)) v (dp + 1) σ).1).toInt64) hx hb dX1_keepFailure_39 rfl ?_
      refine z_calli (As := [.int (h_a ((x_tab ((bg (h_former ((x_tab σ) j)) v (dp + 1) σ).2)) j)), .long (((bg (h_former ((x_tab σ) j)) v (dp + 1) σ).1).toInt64)]) (rest := []) XX (cx_keep l D O K ad (h_a ((x_tab ((bg (h_former ((x_tab σ) j)) v (dp + 1) σ).2)) j)) (((bg (h_former ((x_tab σ) j)) v (dp + 1) σ).1).toInt64) ((bg (h_former ((x_tab σ) j)) v (dp + 1) σ).2)) (cwV 2 hts gX1_keepFailure_X1_keep rfl rfl rfl qX1_keep (by constructor <;> (simp only [rmB, rmS, rmA]; omega))) (va_recv hK hP (ci := 1) (q0 := 0) rfl rfl) hK hP hD hS hA rfl hl.1 rfl (Nat.le_of_ble_eq_true rfl) dX1_keepFailure_40 ⟨Nat.zero_le _, Nat.zero_le _⟩ (fun H locs hP hD hS => ?_)
      have hp40 : xpres ((bg (h_former ((x_tab σ) j)) v (dp + 1) σ).2) (xf_keep (h_a ((x_tab ((bg (h_former ((x_tab σ) j)) v (dp + 1) σ).2)) j)) (((bg (h_former ((x_tab σ) j)) v (dp + 1) σ).1).toInt64) ((bg (h_former ((x_tab σ) j)) v (dp + 1) σ).2)).2 := xp_keep ..
      have hj40 : j < x_n (xf_keep (h_a ((x_tab ((bg (h_former ((x_tab σ) j)) v (dp + 1) σ).2)) j)) (((bg (h_former ((x_tab σ) j)) v (dp + 1) σ).1).toInt64) ((bg (h_former ((x_tab σ) j)) v (dp + 1) σ).2)).2 := by rw [hp40.1]; exact hj10
      have hok40 : xok (xf_keep (h_a ((x_tab ((bg (h_former ((x_tab σ) j)) v (dp + 1) σ).2)) j)) (((bg (h_former ((x_tab σ) j)) v (dp + 1) σ).1).toInt64) ((bg (h_former ((x_tab σ) j)) v (dp + 1) σ).2)).2 := hp40.2 (hok10)
      exact z_reti hx hb hr hlocks rfl hK hP hD hS ((if_neg c17).trans ((if_neg c24).trans (z_eta _))) dX1_keepFailure_43
    · refine lv_iload hx hb dX1_keepFailure_27 (lv_at hl 0 rfl) ?_
      refine lv_goto (tgt := 43) hx hb dX1_keepFailure_29 (by decide) ?_
      exact z_reti hx hb hr hlocks rfl hK hP hD hS ((if_neg c17).trans ((if_pos c24).trans (z_eta _))) dX1_keepFailure_43
noncomputable def xf_mean (bg : Option Nat → Int64 → Int32 → SX → Int32 × SX) (j : Nat) (v : Int64) (dp : Int32) (σ : SX) : Int32 × SX := if (xf_keep (h_a ((x_tab σ) j)) v σ).1 = 0 then (if (h_former ((x_tab ((xf_keep (h_a ((x_tab σ) j)) v σ).2)) j)) = none then (xf_keep (h_a ((x_tab σ) j)) v σ) else (if (xf_isBox (h_a ((x_tab σ) j))) = 0 then (2, (xf_keep (h_a ((x_tab σ) j)) v σ).2) else (if ((x_bc ((xf_keep (h_a ((x_tab σ) j)) v σ).2)) (h_a ((x_tab σ) j)).toNatClampNeg) = 0 then (2, (xf_keep (h_a ((x_tab σ) j)) v σ).2) else (bg (h_former ((x_tab ((xf_keep (h_a ((x_tab σ) j)) v σ).2)) j)) (((x_bs ((xf_keep (h_a ((x_tab σ) j)) v σ).2)) (h_a ((x_tab σ) j)).toNatClampNeg) / (((x_bc ((xf_keep (h_a ((x_tab σ) j)) v σ).2)) (h_a ((x_tab σ) j)).toNatClampNeg)).toInt64) (dp + 1) ((xf_keep (h_a ((x_tab σ) j)) v σ).2))))) else (xf_keep (h_a ((x_tab σ) j)) v σ)
set_option maxRecDepth 100000 in
set_option maxHeartbeats 4000000 in
theorem cx_mean (l : Launch) (D : va_G) (O : Nat → Nat) (K : Nat → ClassId) (ad : Nat → Nat) (bg : Option Nat → Int64 → Int32 → SX → Int32 × SX) (d : Nat) (Hbg : xBG l D O K ad bg d) (Hbp : xBP bg) (j : Nat) (v : Int64) (dp : Int32) (σ : SX) (hok : xok σ) (hj : j < x_n σ) (hd : ∃ k, dp = nI k ∧ k + (d + 1) = 9) : cI l yX1_mean wsX1_mean (rmS d) 0 0 D (xT K) (xW O K ad) σ [.ref (O 0), .ref (ad j), .long v, .int dp] (xf_mean bg j v dp σ) := by
  intro sz
  refine z_start (cc := cX1_mean) (maxL := 7) (ret := (some .int)) (Qc := fun A => va_Qi (fun r9 u9 => r9 = (xf_mean bg j v dp σ).1 ∧ u9 = (xf_mean bg j v dp σ).2) (zB D (xT K) (xW O K ad) A) A) sz (by decide) rfl (Nat.le_of_ble_eq_true rfl) ?_
  intro p e s m below meth c A X hA hK hP hD hS ls hl
  obtain ⟨hx, hb, hr, hml, hts, hown, hlocks, hnm⟩ := X
  have hown : s.vm.findClass RX1 = some m.cls := hown
  have hl : lv_has ls 7 [(0, .ref (O 0)), (1, .ref (ad j)), (2, .long v), (4, .int dp)] := hl
  have inW : ∀ w ∈ wsX10, w ∈ wsX1_mean := fun w h => List.mem_cons_of_mem _ (List.mem_append_right _ h)
  have inX0 : ∀ w ∈ wsX00, w ∈ wsX1_mean := fun w h => List.mem_cons_of_mem _ (List.mem_append_left _ (List.mem_append_right _ h))
  have XX : CallFix p m c cX1_mean 7 s _ wsX1_mean RX1 := ⟨hx, hb, hml, hown, hts⟩
  have k107 := hts (.fieldLink RX1 107 "MailRoom$Handler" "a" "I") (List.mem_of_getElem? (i := 1) rfl)
  have k146 := hts (.fieldLink RX1 146 "MailRoom$Handler" "former" "LMailRoom$Handler;") (List.mem_of_getElem? (i := 2) rfl)
  have k13 := hts (.fieldLink RX1 13 "MailRoom" "boxCounts" "[I") (List.mem_of_getElem? (i := 3) rfl)
  have k9 := hts (.fieldLink RX1 9 "MailRoom" "boxSums" "[J") (List.mem_of_getElem? (i := 4) rfl)
  refine lv_aload_n hx hb dX1_mean_0 rfl (lv_at hl 1 rfl) ?_
  refine x_getH (v := .int (h_a ((x_tab σ) j))) (T := (x_tab σ)) hx hb hts inX0 hown hK hP (rfl) (hj) 2 (by decide) k107 rfl dX1_mean_1 ?_
  refine lv_istore (lv' := [(5, .int (h_a ((x_tab σ) j))), (0, .ref (O 0)), (1, .ref (ad j)), (2, .long v), (4, .int dp)]) hx hb dX1_mean_4 hl (by decide) rfl (fun ls hl => ?_)
  refine lv_aload_n hx hb dX1_mean_6 rfl (lv_at hl 1 rfl) ?_
  refine lv_iload hx hb dX1_mean_7 (lv_at hl 0 rfl) ?_
  refine lv_lload_n hx hb dX1_mean_9 rfl (lv_at hl 3 rfl) ?_
  refine z_calli (As := [.int (h_a ((x_tab σ) j)), .long v]) (rest := []) XX (cx_keep l D O K ad (h_a ((x_tab σ) j)) v σ) (cwV 2 hts gX1_mean_X1_keep rfl rfl rfl qX1_keep (by constructor <;> (simp only [rmB, rmS, rmA]; omega))) (va_recv hK hP (ci := 1) (q0 := 0) rfl rfl) hK hP hD hS hA rfl hl.1 rfl (Nat.le_of_ble_eq_true rfl) dX1_mean_10 ⟨Nat.zero_le _, Nat.zero_le _⟩ (fun H locs hP hD hS => ?_)
  have hp10 : xpres σ (xf_keep (h_a ((x_tab σ) j)) v σ).2 := xp_keep ..
  have hj10 : j < x_n (xf_keep (h_a ((x_tab σ) j)) v σ).2 := by rw [hp10.1]; exact hj
  have hok10 : xok (xf_keep (h_a ((x_tab σ) j)) v σ).2 := hp10.2 (hok)
  refine lv_istore (lv' := [(6, .int ((xf_keep (h_a ((x_tab σ) j)) v σ).1)), (5, .int (h_a ((x_tab σ) j))), (0, .ref (O 0)), (1, .ref (ad j)), (2, .long v), (4, .int dp)]) hx hb dX1_mean_13 hl (by decide) rfl (fun ls hl => ?_)
  refine lv_iload hx hb dX1_mean_15 (lv_at hl 0 rfl) ?_
  refine lv_if_ne (tgt := 27) hx hb dX1_mean_17 (by decide) (fun c17 => ?_) (fun c17 => ?_)
  · refine lv_iload hx hb dX1_mean_27 (lv_at hl 0 rfl) ?_
    exact z_reti hx hb hr hlocks rfl hK hP hD hS ((if_neg c17).trans (z_eta _)) dX1_mean_29
  · refine lv_aload_n hx hb dX1_mean_20 rfl (lv_at hl 3 rfl) ?_
    refine x_getH (v := va_re ad (h_former ((x_tab ((xf_keep (h_a ((x_tab σ) j)) v σ).2)) j))) (T := (x_tab ((xf_keep (h_a ((x_tab σ) j)) v σ).2))) hx hb hts inX0 hown hK hP (rfl) (hj10) 5 (by decide) k146 rfl dX1_mean_21 ?_
    refine z_ifnonnull (tgt := 30) hx hb dX1_mean_24 (by decide) (fun c24 => ?_) (fun c24 => ?_)
    · refine lv_iload hx hb dX1_mean_30 (lv_at hl 1 rfl) ?_
      refine z_calls (As := [.int (h_a ((x_tab σ) j))]) (rest := []) XX (cx_isBox l (h_a ((x_tab σ) j))) (va_cwS 1 hts gX1_mean_X1_isBox rfl rfl rfl qX1_isBox (by constructor <;> (simp only [rmB, rmS, rmA]; omega))) rfl hl.1 rfl (Nat.le_of_ble_eq_true rfl) dX1_mean_32 ⟨Nat.zero_le _, Nat.zero_le _⟩ ?_
      refine lv_if_eq (tgt := 48) hx hb dX1_mean_35 (by decide) (fun c35 => ?_) (fun c35 => ?_)
      · refine lv_iconst (v := 2) hx hb dX1_mean_48 (by decide) ?_
        exact z_reti hx hb hr hlocks rfl hK hP hD hS ((if_pos c17).trans ((if_neg c24).trans ((if_pos c35).trans (rfl)))) dX1_mean_49
      · refine lv_aload_n hx hb dX1_mean_38 rfl (lv_at hl 2 rfl) ?_
        refine x_ga_2 hx hb hts inW hown hK hP k13 dX1_mean_39 ?_
        refine lv_iload hx hb dX1_mean_42 (lv_at hl 1 rfl) ?_
        refine x_ld_bc (f := (x_bc ((xf_keep (h_a ((x_tab σ) j)) v σ).2))) (i := (h_a ((x_tab σ) j))) hx hb hK hP (rfl) (xbox_in (by assumption)) dX1_mean_44 ?_
        refine lv_if_ne (tgt := 50) hx hb dX1_mean_45 (by decide) (fun c45 => ?_) (fun c45 => ?_)
        · refine lv_aload_n hx hb dX1_mean_50 rfl (lv_at hl 2 rfl) ?_
          refine lv_aload_n hx hb dX1_mean_51 rfl (lv_at hl 3 rfl) ?_
          refine x_getH (v := va_re ad (h_former ((x_tab ((xf_keep (h_a ((x_tab σ) j)) v σ).2)) j))) (T := (x_tab ((xf_keep (h_a ((x_tab σ) j)) v σ).2))) hx hb hts inX0 hown hK hP (rfl) (hj10) 5 (by decide) k146 rfl dX1_mean_52 ?_
          refine lv_aload_n hx hb dX1_mean_55 rfl (lv_at hl 2 rfl) ?_
          refine x_ga_1 hx hb hts inW hown hK hP k9 dX1_mean_56 ?_
          refine lv_iload hx hb dX1_mean_59 (lv_at hl 1 rfl) ?_
          refine x_ld_bs (f := (x_bs ((xf_keep (h_a ((x_tab σ) j)) v σ).2))) (i := (h_a ((x_tab σ) j))) hx hb hK hP (rfl) (xbox_in (by assumption)) dX1_mean_61 ?_
          refine lv_aload_n hx hb dX1_mean_62 rfl (lv_at hl 2 rfl) ?_
          refine x_ga_2 hx hb hts inW hown hK hP k13 dX1_mean_63 ?_
          refine lv_iload hx hb dX1_mean_66 (lv_at hl 1 rfl) ?_
          refine x_ld_bc (f := (x_bc ((xf_keep (h_a ((x_tab σ) j)) v σ).2))) (i := (h_a ((x_tab σ) j))) hx hb hK hP (rfl) (xbox_in (by assumption)) dX1_mean_68 ?_
          refine lv_i2l (v := (((x_bc ((xf_keep (h_a ((x_tab σ) j)) v σ).2)) (h_a ((x_tab σ) j)).toNatClampNeg)).toInt64) hx hb dX1_mean_69 rfl ?_
          refine lv_ldiv hx hb dX1_mean_70 (z_i0 c45) ?_
          refine lv_iload hx hb dX1_mean_71 (lv_at hl 5 rfl) ?_
          refine lv_iconst (v := 1) hx hb dX1_mean_73 (by decide) ?_
          refine lv_iadd hx hb dX1_mean_74 ?_
          refine z_calli (As := [va_re ad (h_former ((x_tab ((xf_keep (h_a ((x_tab σ) j)) v σ).2)) j)), .long (((x_bs ((xf_keep (h_a ((x_tab σ) j)) v σ).2)) (h_a ((x_tab σ) j)).toNatClampNeg) / (((x_bc ((xf_keep (h_a ((x_tab σ) j)) v σ).2)) (h_a ((x_tab σ) j)).toNatClampNeg)).toInt64), .int (dp + 1)]) (rest := []) XX (Hbg (h_former ((x_tab ((xf_keep (h_a ((x_tab σ) j)) v σ).2)) j)) (((x_bs ((xf_keep (h_a ((x_tab σ) j)) v σ).2)) (h_a ((x_tab σ) j)).toNatClampNeg) / (((x_bc ((xf_keep (h_a ((x_tab σ) j)) v σ).2)) (h_a ((x_tab σ) j)).toNatClampNeg)).toInt64) (dp + 1) ((xf_keep (h_a ((x_tab σ) j)) v σ).2) (hok10) (((hok10).2 _).1) (z_dp hd)) (cwV 3 hts gX1_mean_X1_begin rfl rfl rfl qX1_begin (by constructor <;> (simp only [rmB, rmS, rmA]; omega))) (va_recv hK hP (ci := 1) (q0 := 0) rfl rfl) hK hP hD hS hA rfl hl.1 rfl (Nat.le_of_ble_eq_true rfl) dX1_mean_75 ⟨Nat.zero_le _, Nat.zero_le _⟩ (fun H locs hP hD hS => ?_)
          have hp75 : xpres ((xf_keep (h_a ((x_tab σ) j)) v σ).2) (bg (h_former ((x_tab ((xf_keep (h_a ((x_tab σ) j)) v σ).2)) j)) (((x_bs ((xf_keep (h_a ((x_tab σ) j)) v σ).2)) (h_a ((x_tab σ) j)).toNatClampNeg) / (((x_bc ((xf_keep (h_a ((x_tab σ) j)) v σ).2)) (h_a ((x_tab σ) j)).toNatClampNeg)).toInt64) (dp + 1) ((xf_keep (h_a ((x_tab σ) j)) v σ).2)).2 := Hbp _ _ _ _ (hok10) (((hok10).2 _).1)
          have hj75 : j < x_n (bg (h_former ((x_tab ((xf_keep (h_a ((x_tab σ) j)) v σ).2)) j)) (((x_bs ((xf_keep (h_a ((x_tab σ) j)) v σ).2)) (h_a ((x_tab σ) j)).toNatClampNeg) / (((x_bc ((xf_keep (h_a ((x_tab σ) j)) v σ).2)) (h_a ((x_tab σ) j)).toNatClampNeg)).toInt64) (dp + 1) ((xf_keep (h_a ((x_tab σ) j)) v σ).2)).2 := by rw [hp75.1]; exact hj10
          have hok75 : xok (bg (h_former ((x_tab ((xf_keep (h_a ((x_tab σ) j)) v σ).2)) j)) (((x_bs ((xf_keep (h_a ((x_tab σ) j)) v σ).2)) (h_a ((x_tab σ) j)).toNatClampNeg) / (((x_bc ((xf_keep (h_a ((x_tab σ) j)) v σ).2)) (h_a ((x_tab σ) j)).toNatClampNeg)).toInt64) (dp + 1) ((xf_keep (h_a ((x_tab σ) j)) v σ).2)).2 := hp75.2 (hok10)
          exact z_reti hx hb hr hlocks rfl hK hP hD hS ((if_pos c17).trans ((if_neg c24).trans ((if_neg c35).trans ((if_neg c45).trans (z_eta _))))) dX1_mean_78
        · refine lv_iconst (v := 2) hx hb dX1_mean_48 (by decide) ?_
          exact z_reti hx hb hr hlocks rfl hK hP hD hS ((if_pos c17).trans ((if_neg c24).trans ((if_neg c35).trans ((if_pos c45).trans (rfl))))) dX1_mean_49
    · refine lv_iload hx hb dX1_mean_27 (lv_at hl 0 rfl) ?_
      exact z_reti hx hb hr hlocks rfl hK hP hD hS ((if_pos c17).trans ((if_pos c24).trans (z_eta _))) dX1_mean_29
noncomputable def xf_act (bg : Option Nat → Int64 → Int32 → SX → Int32 × SX) (j : Nat) (v : Int64) (dp : Int32) (σ : SX) : Int32 × SX := if (h_sort ((x_tab σ) j)) = 0 then (xf_keep (h_a ((x_tab σ) j)) v σ) else (if (h_sort ((x_tab σ) j)) = 1 then (xf_enqueue (h_a ((x_tab σ) j)) (v + (h_c ((x_tab σ) j))) σ) else (if (h_sort ((x_tab σ) j)) = 2 then (bg (h_other ((x_tab σ) j)) (v + (h_c ((x_tab σ) j))) (dp + 1) σ) else (if (h_sort ((x_tab σ) j)) = 3 then (bg (xf_handlerOf (h_a ((x_tab σ) j)) σ) (v + (h_c ((x_tab σ) j))) (dp + 1) σ) else (if (h_sort ((x_tab σ) j)) = 4 then (xf_sift bg j v dp σ) else (if (h_sort ((x_tab σ) j)) = 5 then (xf_limit bg j v dp σ) else (if (h_sort ((x_tab σ) j)) = 6 then (xf_once j v σ) else (if (h_sort ((x_tab σ) j)) = 7 then (xf_both bg j v dp σ) else (if (h_sort ((x_tab σ) j)) = 8 then (xf_share j v σ) else (if (h_sort ((x_tab σ) j)) = 9 then (xf_keep ((v).toInt32) 1 σ) else (if (h_sort ((x_tab σ) j)) = 10 then (xf_keepFailure bg j v dp σ) else (if (h_sort ((x_tab σ) j)) = 11 then (xf_mean bg j v dp σ) else (xf_keepAndSend j v σ))))))))))))
set_option maxRecDepth 100000 in
set_option maxHeartbeats 4000000 in
theorem cx_act (l : Launch) (D : va_G) (O : Nat → Nat) (K : Nat → ClassId) (ad : Nat → Nat) (bg : Option Nat → Int64 → Int32 → SX → Int32 × SX) (d : Nat) (Hbg : xBG l D O K ad bg d) (Hbp : xBP bg) (j : Nat) (v : Int64) (dp : Int32) (σ : SX) (hok : xok σ) (hj : j < x_n σ) (hd : ∃ k, dp = nI k ∧ k + (d + 1) = 9) : cI l yX1_act wsX1_act (rmA d) 0 0 D (xT K) (xW O K ad) σ [.ref (O 0), .ref (ad j), .long v, .int dp] (xf_act bg j v dp σ) := by
  intro sz
  refine z_start (cc := cX1_act) (maxL := 5) (ret := (some .int)) (Qc := fun A => va_Qi (fun r9 u9 => r9 = (xf_act bg j v dp σ).1 ∧ u9 = (xf_act bg j v dp σ).2) (zB D (xT K) (xW O K ad) A) A) sz (by decide) rfl (Nat.le_of_ble_eq_true rfl) ?_
  intro p e s m below meth c A X hA hK hP hD hS ls hl
  obtain ⟨hx, hb, hr, hml, hts, hown, hlocks, hnm⟩ := X
  have hown : s.vm.findClass RX1 = some m.cls := hown
  have hl : lv_has ls 5 [(0, .ref (O 0)), (1, .ref (ad j)), (2, .long v), (4, .int dp)] := hl
  have inW : ∀ w ∈ wsX10, w ∈ wsX1_act := fun w h => List.mem_cons_of_mem _ (List.mem_append_right _ h)
  have inX0 : ∀ w ∈ wsX00, w ∈ wsX1_act := fun w h => List.mem_cons_of_mem _ (List.mem_append_left _ (List.mem_append_right _ h))
  have XX : CallFix p m c cX1_act 5 s _ wsX1_act RX1 := ⟨hx, hb, hml, hown, hts⟩
  have k104 := hts (.fieldLink RX1 104 "MailRoom$Handler" "sort" "I") (List.mem_of_getElem? (i := 1) rfl)
  have k107 := hts (.fieldLink RX1 107 "MailRoom$Handler" "a" "I") (List.mem_of_getElem? (i := 2) rfl)
  have k113 := hts (.fieldLink RX1 113 "MailRoom$Handler" "c" "J") (List.mem_of_getElem? (i := 3) rfl)
  have k117 := hts (.fieldLink RX1 117 "MailRoom$Handler" "other" "LMailRoom$Handler;") (List.mem_of_getElem? (i := 4) rfl)
  refine lv_aload_n hx hb dX1_act_0 rfl (lv_at hl 1 rfl) ?_
  refine x_getH (v := .int (h_sort ((x_tab σ) j))) (T := (x_tab σ)) hx hb hts inX0 hown hK hP (rfl) (hj) 1 (by decide) k104 rfl dX1_act_1 ?_
  by_cases t4_0 : (h_sort ((x_tab σ) j)) = 0
  · refine lv_tableIn (off := 64) (tgt := 68) hx hb dX1_act_4 (by rw [t4_0]; decide) (by rw [t4_0]; decide) (by rw [t4_0]; rfl) (by decide) ?_
    refine lv_aload_n hx hb dX1_act_68 rfl (lv_at hl 0 rfl) ?_
    refine lv_aload_n hx hb dX1_act_69 rfl (lv_at hl 1 rfl) ?_
    refine x_getH (v := .int (h_a ((x_tab σ) j))) (T := (x_tab σ)) hx hb hts inX0 hown hK hP (rfl) (hj) 2 (by decide) k107 rfl dX1_act_70 ?_
    refine lv_lload_n hx hb dX1_act_73 rfl (lv_at hl 2 rfl) ?_
    refine z_calli (As := [.int (h_a ((x_tab σ) j)), .long v]) (rest := []) XX (cx_keep l D O K ad (h_a ((x_tab σ) j)) v σ) (cwV 2 hts gX1_act_X1_keep rfl rfl rfl qX1_keep (by constructor <;> (simp only [rmB, rmS, rmA]; omega))) (va_recv hK hP (ci := 1) (q0 := 0) rfl rfl) hK hP hD hS hA rfl hl.1 rfl (Nat.le_of_ble_eq_true rfl) dX1_act_74 ⟨Nat.zero_le _, Nat.zero_le _⟩ (fun H locs hP hD hS => ?_)
    exact z_reti hx hb hr hlocks rfl hK hP hD hS ((if_pos t4_0).trans (z_eta _)) dX1_act_77
  · by_cases t4_1 : (h_sort ((x_tab σ) j)) = 1
    · refine lv_tableIn (off := 74) (tgt := 78) hx hb dX1_act_4 (by rw [t4_1]; decide) (by rw [t4_1]; decide) (by rw [t4_1]; rfl) (by decide) ?_
      refine lv_aload_n hx hb dX1_act_78 rfl (lv_at hl 0 rfl) ?_
      refine lv_aload_n hx hb dX1_act_79 rfl (lv_at hl 1 rfl) ?_
      refine x_getH (v := .int (h_a ((x_tab σ) j))) (T := (x_tab σ)) hx hb hts inX0 hown hK hP (rfl) (hj) 2 (by decide) k107 rfl dX1_act_80 ?_
      refine lv_lload_n hx hb dX1_act_83 rfl (lv_at hl 2 rfl) ?_
      refine lv_aload_n hx hb dX1_act_84 rfl (lv_at hl 1 rfl) ?_
      refine x_getH (v := .long (h_c ((x_tab σ) j))) (T := (x_tab σ)) hx hb hts inX0 hown hK hP (rfl) (hj) 4 (by decide) k113 rfl dX1_act_85 ?_
      refine lv_ladd hx hb dX1_act_88 ?_
      refine z_calli (As := [.int (h_a ((x_tab σ) j)), .long (v + (h_c ((x_tab σ) j)))]) (rest := []) XX (cx_enqueue l D O K ad (h_a ((x_tab σ) j)) (v + (h_c ((x_tab σ) j))) σ) (cwV 2 hts gX1_act_X1_enqueue rfl rfl rfl qX1_enqueue (by constructor <;> (simp only [rmB, rmS, rmA]; omega))) (va_recv hK hP (ci := 1) (q0 := 0) rfl rfl) hK hP hD hS hA rfl hl.1 rfl (Nat.le_of_ble_eq_true rfl) dX1_act_89 ⟨Nat.zero_le _, Nat.zero_le _⟩ (fun H locs hP hD hS => ?_)
      exact z_reti hx hb hr hlocks rfl hK hP hD hS ((if_neg t4_0).trans ((if_pos t4_1).trans (z_eta _))) dX1_act_92
    · by_cases t4_2 : (h_sort ((x_tab σ) j)) = 2
      · refine lv_tableIn (off := 89) (tgt := 93) hx hb dX1_act_4 (by rw [t4_2]; decide) (by rw [t4_2]; decide) (by rw [t4_2]; rfl) (by decide) ?_
        refine lv_aload_n hx hb dX1_act_93 rfl (lv_at hl 0 rfl) ?_
        refine lv_aload_n hx hb dX1_act_94 rfl (lv_at hl 1 rfl) ?_
        refine x_getH (v := va_re ad (h_other ((x_tab σ) j))) (T := (x_tab σ)) hx hb hts inX0 hown hK hP (rfl) (hj) 6 (by decide) k117 rfl dX1_act_95 ?_
        refine lv_lload_n hx hb dX1_act_98 rfl (lv_at hl 2 rfl) ?_
        refine lv_aload_n hx hb dX1_act_99 rfl (lv_at hl 1 rfl) ?_
        refine x_getH (v := .long (h_c ((x_tab σ) j))) (T := (x_tab σ)) hx hb hts inX0 hown hK hP (rfl) (hj) 4 (by decide) k113 rfl dX1_act_100 ?_
        refine lv_ladd hx hb dX1_act_103 ?_
        refine lv_iload hx hb dX1_act_104 (lv_at hl 3 rfl) ?_
        refine lv_iconst (v := 1) hx hb dX1_act_106 (by decide) ?_
        refine lv_iadd hx hb dX1_act_107 ?_
        refine z_calli (As := [va_re ad (h_other ((x_tab σ) j)), .long (v + (h_c ((x_tab σ) j))), .int (dp + 1)]) (rest := []) XX (Hbg (h_other ((x_tab σ) j)) (v + (h_c ((x_tab σ) j))) (dp + 1) σ (hok) (((hok).2 _).2) (z_dp hd)) (cwV 3 hts gX1_act_X1_begin rfl rfl rfl qX1_begin (by constructor <;> (simp only [rmB, rmS, rmA]; omega))) (va_recv hK hP (ci := 1) (q0 := 0) rfl rfl) hK hP hD hS hA rfl hl.1 rfl (Nat.le_of_ble_eq_true rfl) dX1_act_108 ⟨Nat.zero_le _, Nat.zero_le _⟩ (fun H locs hP hD hS => ?_)
        exact z_reti hx hb hr hlocks rfl hK hP hD hS ((if_neg t4_0).trans ((if_neg t4_1).trans ((if_pos t4_2).trans (z_eta _)))) dX1_act_111
      · by_cases t4_3 : (h_sort ((x_tab σ) j)) = 3
        · refine lv_tableIn (off := 108) (tgt := 112) hx hb dX1_act_4 (by rw [t4_3]; decide) (by rw [t4_3]; decide) (by rw [t4_3]; rfl) (by decide) ?_
          refine lv_aload_n hx hb dX1_act_112 rfl (lv_at hl 0 rfl) ?_
          refine lv_aload_n hx hb dX1_act_113 rfl (lv_at hl 0 rfl) ?_
          refine lv_aload_n hx hb dX1_act_114 rfl (lv_at hl 1 rfl) ?_
          refine x_getH (v := .int (h_a ((x_tab σ) j))) (T := (x_tab σ)) hx hb hts inX0 hown hK hP (rfl) (hj) 2 (by decide) k107 rfl dX1_act_115 ?_
          refine z_callq (As := [.int (h_a ((x_tab σ) j))]) (rest := [.ref (O 0)]) XX (cx_handlerOf l D O K ad (h_a ((x_tab σ) j)) σ) (cwV 1 hts gX1_act_X1_handlerOf rfl rfl rfl qX1_handlerOf (by constructor <;> (simp only [rmB, rmS, rmA]; omega))) (va_recv hK hP (ci := 1) (q0 := 0) rfl rfl) hK hP hD hS hA rfl hl.1 rfl (Nat.le_of_ble_eq_true rfl) dX1_act_118 ⟨Nat.zero_le _, Nat.zero_le _⟩ (fun H locs hP hD hS => ?_)
          refine lv_lload_n hx hb dX1_act_121 rfl (lv_at hl 2 rfl) ?_
          refine lv_aload_n hx hb dX1_act_122 rfl (lv_at hl 1 rfl) ?_
          refine x_getH (v := .long (h_c ((x_tab σ) j))) (T := (x_tab σ)) hx hb hts inX0 hown hK hP (rfl) (hj) 4 (by decide) k113 rfl dX1_act_123 ?_
          refine lv_ladd hx hb dX1_act_126 ?_
          refine lv_iload hx hb dX1_act_127 (lv_at hl 3 rfl) ?_
          refine lv_iconst (v := 1) hx hb dX1_act_129 (by decide) ?_
          refine lv_iadd hx hb dX1_act_130 ?_
          refine z_calli (As := [va_re ad (xf_handlerOf (h_a ((x_tab σ) j)) σ), .long (v + (h_c ((x_tab σ) j))), .int (dp + 1)]) (rest := []) XX (Hbg (xf_handlerOf (h_a ((x_tab σ) j)) σ) (v + (h_c ((x_tab σ) j))) (dp + 1) σ (hok) (xokr_handlerOf (hok)) (z_dp hd)) (cwV 3 hts gX1_act_X1_begin rfl rfl rfl qX1_begin (by constructor <;> (simp only [rmB, rmS, rmA]; omega))) (va_recv hK hP (ci := 1) (q0 := 0) rfl rfl) hK hP hD hS hA rfl hl.1 rfl (Nat.le_of_ble_eq_true rfl) dX1_act_131 ⟨Nat.zero_le _, Nat.zero_le _⟩ (fun H locs hP hD hS => ?_)
          exact z_reti hx hb hr hlocks rfl hK hP hD hS ((if_neg t4_0).trans ((if_neg t4_1).trans ((if_neg t4_2).trans ((if_pos t4_3).trans (z_eta _))))) dX1_act_134
        · by_cases t4_4 : (h_sort ((x_tab σ) j)) = 4
          · refine lv_tableIn (off := 131) (tgt := 135) hx hb dX1_act_4 (by rw [t4_4]; decide) (by rw [t4_4]; decide) (by rw [t4_4]; rfl) (by decide) ?_
            refine lv_aload_n hx hb dX1_act_135 rfl (lv_at hl 0 rfl) ?_
            refine lv_aload_n hx hb dX1_act_136 rfl (lv_at hl 1 rfl) ?_
            refine lv_lload_n hx hb dX1_act_137 rfl (lv_at hl 2 rfl) ?_
            refine lv_iload hx hb dX1_act_138 (lv_at hl 3 rfl) ?_
            refine z_calli (As := [.ref (ad j), .long v, .int dp]) (rest := []) XX (cx_sift l D O K ad bg d Hbg Hbp j v dp σ (hok) (hj) hd) (cwV 3 hts gX1_act_X1_sift rfl rfl rfl qX1_sift (by constructor <;> (simp only [rmB, rmS, rmA]; omega))) (va_recv hK hP (ci := 1) (q0 := 0) rfl rfl) hK hP hD hS hA rfl hl.1 rfl (Nat.le_of_ble_eq_true rfl) dX1_act_140 ⟨Nat.zero_le _, Nat.zero_le _⟩ (fun H locs hP hD hS => ?_)
            exact z_reti hx hb hr hlocks rfl hK hP hD hS ((if_neg t4_0).trans ((if_neg t4_1).trans ((if_neg t4_2).trans ((if_neg t4_3).trans ((if_pos t4_4).trans (z_eta _)))))) dX1_act_143
          · by_cases t4_5 : (h_sort ((x_tab σ) j)) = 5
            · refine lv_tableIn (off := 140) (tgt := 144) hx hb dX1_act_4 (by rw [t4_5]; decide) (by rw [t4_5]; decide) (by rw [t4_5]; rfl) (by decide) ?_
              refine lv_aload_n hx hb dX1_act_144 rfl (lv_at hl 0 rfl) ?_
              refine lv_aload_n hx hb dX1_act_145 rfl (lv_at hl 1 rfl) ?_
              refine lv_lload_n hx hb dX1_act_146 rfl (lv_at hl 2 rfl) ?_
              refine lv_iload hx hb dX1_act_147 (lv_at hl 3 rfl) ?_
              refine z_calli (As := [.ref (ad j), .long v, .int dp]) (rest := []) XX (cx_limit l D O K ad bg d Hbg Hbp j v dp σ (hok) (hj) hd) (cwV 3 hts gX1_act_X1_limit rfl rfl rfl qX1_limit (by constructor <;> (simp only [rmB, rmS, rmA]; omega))) (va_recv hK hP (ci := 1) (q0 := 0) rfl rfl) hK hP hD hS hA rfl hl.1 rfl (Nat.le_of_ble_eq_true rfl) dX1_act_149 ⟨Nat.zero_le _, Nat.zero_le _⟩ (fun H locs hP hD hS => ?_)
              exact z_reti hx hb hr hlocks rfl hK hP hD hS ((if_neg t4_0).trans ((if_neg t4_1).trans ((if_neg t4_2).trans ((if_neg t4_3).trans ((if_neg t4_4).trans ((if_pos t4_5).trans (z_eta _))))))) dX1_act_152
            · by_cases t4_6 : (h_sort ((x_tab σ) j)) = 6
              · refine lv_tableIn (off := 149) (tgt := 153) hx hb dX1_act_4 (by rw [t4_6]; decide) (by rw [t4_6]; decide) (by rw [t4_6]; rfl) (by decide) ?_
                refine lv_aload_n hx hb dX1_act_153 rfl (lv_at hl 0 rfl) ?_
                refine lv_aload_n hx hb dX1_act_154 rfl (lv_at hl 1 rfl) ?_
                refine lv_lload_n hx hb dX1_act_155 rfl (lv_at hl 2 rfl) ?_
                refine z_calli (As := [.ref (ad j), .long v]) (rest := []) XX (cx_once l D O K ad j v σ (hok) (hj)) (cwV 2 hts gX1_act_X1_once rfl rfl rfl qX1_once (by constructor <;> (simp only [rmB, rmS, rmA]; omega))) (va_recv hK hP (ci := 1) (q0 := 0) rfl rfl) hK hP hD hS hA rfl hl.1 rfl (Nat.le_of_ble_eq_true rfl) dX1_act_156 ⟨Nat.zero_le _, Nat.zero_le _⟩ (fun H locs hP hD hS => ?_)
                exact z_reti hx hb hr hlocks rfl hK hP hD hS ((if_neg t4_0).trans ((if_neg t4_1).trans ((if_neg t4_2).trans ((if_neg t4_3).trans ((if_neg t4_4).trans ((if_neg t4_5).trans ((if_pos t4_6).trans (z_eta _)))))))) dX1_act_159
              · by_cases t4_7 : (h_sort ((x_tab σ) j)) = 7
                · refine lv_tableIn (off := 156) (tgt := 160) hx hb dX1_act_4 (by rw [t4_7]; decide) (by rw [t4_7]; decide) (by rw [t4_7]; rfl) (by decide) ?_
                  refine lv_aload_n hx hb dX1_act_160 rfl (lv_at hl 0 rfl) ?_
                  refine lv_aload_n hx hb dX1_act_161 rfl (lv_at hl 1 rfl) ?_
                  refine lv_lload_n hx hb dX1_act_162 rfl (lv_at hl 2 rfl) ?_
                  refine lv_iload hx hb dX1_act_163 (lv_at hl 3 rfl) ?_
                  refine z_calli (As := [.ref (ad j), .long v, .int dp]) (rest := []) XX (cx_both l D O K ad bg d Hbg Hbp j v dp σ (hok) (hj) hd) (cwV 3 hts gX1_act_X1_both rfl rfl rfl qX1_both (by constructor <;> (simp only [rmB, rmS, rmA]; omega))) (va_recv hK hP (ci := 1) (q0 := 0) rfl rfl) hK hP hD hS hA rfl hl.1 rfl (Nat.le_of_ble_eq_true rfl) dX1_act_165 ⟨Nat.zero_le _, Nat.zero_le _⟩ (fun H locs hP hD hS => ?_)
                  exact z_reti hx hb hr hlocks rfl hK hP hD hS ((if_neg t4_0).trans ((if_neg t4_1).trans ((if_neg t4_2).trans ((if_neg t4_3).trans ((if_neg t4_4).trans ((if_neg t4_5).trans ((if_neg t4_6).trans ((if_pos t4_7).trans (z_eta _))))))))) dX1_act_168
                · by_cases t4_8 : (h_sort ((x_tab σ) j)) = 8
                  · refine lv_tableIn (off := 165) (tgt := 169) hx hb dX1_act_4 (by rw [t4_8]; decide) (by rw [t4_8]; decide) (by rw [t4_8]; rfl) (by decide) ?_
                    refine lv_aload_n hx hb dX1_act_169 rfl (lv_at hl 0 rfl) ?_
                    refine lv_aload_n hx hb dX1_act_170 rfl (lv_at hl 1 rfl) ?_
                    refine lv_lload_n hx hb dX1_act_171 rfl (lv_at hl 2 rfl) ?_
                    refine z_calli (As := [.ref (ad j), .long v]) (rest := []) XX (cx_share l D O K ad j v σ (hj)) (cwV 2 hts gX1_act_X1_share rfl rfl rfl qX1_share (by constructor <;> (simp only [rmB, rmS, rmA]; omega))) (va_recv hK hP (ci := 1) (q0 := 0) rfl rfl) hK hP hD hS hA rfl hl.1 rfl (Nat.le_of_ble_eq_true rfl) dX1_act_172 ⟨Nat.zero_le _, Nat.zero_le _⟩ (fun H locs hP hD hS => ?_)
                    exact z_reti hx hb hr hlocks rfl hK hP hD hS ((if_neg t4_0).trans ((if_neg t4_1).trans ((if_neg t4_2).trans ((if_neg t4_3).trans ((if_neg t4_4).trans ((if_neg t4_5).trans ((if_neg t4_6).trans ((if_neg t4_7).trans ((if_pos t4_8).trans (z_eta _)))))))))) dX1_act_175
                  · by_cases t4_9 : (h_sort ((x_tab σ) j)) = 9
                    · refine lv_tableIn (off := 172) (tgt := 176) hx hb dX1_act_4 (by rw [t4_9]; decide) (by rw [t4_9]; decide) (by rw [t4_9]; rfl) (by decide) ?_
                      refine lv_aload_n hx hb dX1_act_176 rfl (lv_at hl 0 rfl) ?_
                      refine lv_lload_n hx hb dX1_act_177 rfl (lv_at hl 2 rfl) ?_
                      refine lv_l2i (v := (v).toInt32) hx hb dX1_act_178 rfl ?_
                      refine lv_lconst (v := 1) hx hb dX1_act_179 (by decide) ?_
                      refine z_calli (As := [.int ((v).toInt32), .long 1]) (rest := []) XX (cx_keep l D O K ad ((v).toInt32) 1 σ) (cwV 2 hts gX1_act_X1_keep rfl rfl rfl qX1_keep (by constructor <;> (simp only [rmB, rmS, rmA]; omega))) (va_recv hK hP (ci := 1) (q0 := 0) rfl rfl) hK hP hD hS hA rfl hl.1 rfl (Nat.le_of_ble_eq_true rfl) dX1_act_180 ⟨Nat.zero_le _, Nat.zero_le _⟩ (fun H locs hP hD hS => ?_)
                      exact z_reti hx hb hr hlocks rfl hK hP hD hS ((if_neg t4_0).trans ((if_neg t4_1).trans ((if_neg t4_2).trans ((if_neg t4_3).trans ((if_neg t4_4).trans ((if_neg t4_5).trans ((if_neg t4_6).trans ((if_neg t4_7).trans ((if_neg t4_8).trans ((if_pos t4_9).trans (z_eta _))))))))))) dX1_act_183
                    · by_cases t4_10 : (h_sort ((x_tab σ) j)) = 10
                      · refine lv_tableIn (off := 180) (tgt := 184) hx hb dX1_act_4 (by rw [t4_10]; decide) (by rw [t4_10]; decide) (by rw [t4_10]; rfl) (by decide) ?_
                        refine lv_aload_n hx hb dX1_act_184 rfl (lv_at hl 0 rfl) ?_
                        refine lv_aload_n hx hb dX1_act_185 rfl (lv_at hl 1 rfl) ?_
                        refine lv_lload_n hx hb dX1_act_186 rfl (lv_at hl 2 rfl) ?_
                        refine lv_iload hx hb dX1_act_187 (lv_at hl 3 rfl) ?_
                        refine z_calli (As := [.ref (ad j), .long v, .int dp]) (rest := []) XX (cx_keepFailure l D O K ad bg d Hbg Hbp j v dp σ (hok) (hj) hd) (cwV 3 hts gX1_act_X1_keepFailure rfl rfl rfl qX1_keepFailure (by constructor <;> (simp only [rmB, rmS, rmA]; omega))) (va_recv hK hP (ci := 1) (q0 := 0) rfl rfl) hK hP hD hS hA rfl hl.1 rfl (Nat.le_of_ble_eq_true rfl) dX1_act_189 ⟨Nat.zero_le _, Nat.zero_le _⟩ (fun H locs hP hD hS => ?_)
                        exact z_reti hx hb hr hlocks rfl hK hP hD hS ((if_neg t4_0).trans ((if_neg t4_1).trans ((if_neg t4_2).trans ((if_neg t4_3).trans ((if_neg t4_4).trans ((if_neg t4_5).trans ((if_neg t4_6).trans ((if_neg t4_7).trans ((if_neg t4_8).trans ((if_neg t4_9).trans ((if_pos t4_10).trans (z_eta _)))))))))))) dX1_act_192
                      · by_cases t4_11 : (h_sort ((x_tab σ) j)) = 11
                        · refine lv_tableIn (off := 189) (tgt := 193) hx hb dX1_act_4 (by rw [t4_11]; decide) (by rw [t4_11]; decide) (by rw [t4_11]; rfl) (by decide) ?_
                          refine lv_aload_n hx hb dX1_act_193 rfl (lv_at hl 0 rfl) ?_
                          refine lv_aload_n hx hb dX1_act_194 rfl (lv_at hl 1 rfl) ?_
                          refine lv_lload_n hx hb dX1_act_195 rfl (lv_at hl 2 rfl) ?_
                          refine lv_iload hx hb dX1_act_196 (lv_at hl 3 rfl) ?_
                          refine z_calli (As := [.ref (ad j), .long v, .int dp]) (rest := []) XX (cx_mean l D O K ad bg d Hbg Hbp j v dp σ (hok) (hj) hd) (cwV 3 hts gX1_act_X1_mean rfl rfl rfl qX1_mean (by constructor <;> (simp only [rmB, rmS, rmA]; omega))) (va_recv hK hP (ci := 1) (q0 := 0) rfl rfl) hK hP hD hS hA rfl hl.1 rfl (Nat.le_of_ble_eq_true rfl) dX1_act_198 ⟨Nat.zero_le _, Nat.zero_le _⟩ (fun H locs hP hD hS => ?_)
                          exact z_reti hx hb hr hlocks rfl hK hP hD hS ((if_neg t4_0).trans ((if_neg t4_1).trans ((if_neg t4_2).trans ((if_neg t4_3).trans ((if_neg t4_4).trans ((if_neg t4_5).trans ((if_neg t4_6).trans ((if_neg t4_7).trans ((if_neg t4_8).trans ((if_neg t4_9).trans ((if_neg t4_10).trans ((if_pos t4_11).trans (z_eta _))))))))))))) dX1_act_201
                        · refine lv_tableOut (tgt := 202) hx hb dX1_act_4 (z_out 11 (by decide) (fun k hk => match k, hk with | 0, _ => t4_0 | 1, _ => t4_1 | 2, _ => t4_2 | 3, _ => t4_3 | 4, _ => t4_4 | 5, _ => t4_5 | 6, _ => t4_6 | 7, _ => t4_7 | 8, _ => t4_8 | 9, _ => t4_9 | 10, _ => t4_10 | 11, _ => t4_11 | (k + 12), hk => absurd hk (by omega))) (by decide) ?_
                          refine lv_aload_n hx hb dX1_act_202 rfl (lv_at hl 0 rfl) ?_
                          refine lv_aload_n hx hb dX1_act_203 rfl (lv_at hl 1 rfl) ?_
                          refine lv_lload_n hx hb dX1_act_204 rfl (lv_at hl 2 rfl) ?_
                          refine z_calli (As := [.ref (ad j), .long v]) (rest := []) XX (cx_keepAndSend l D O K ad j v σ (hj)) (cwV 2 hts gX1_act_X1_keepAndSend rfl rfl rfl qX1_keepAndSend (by constructor <;> (simp only [rmB, rmS, rmA]; omega))) (va_recv hK hP (ci := 1) (q0 := 0) rfl rfl) hK hP hD hS hA rfl hl.1 rfl (Nat.le_of_ble_eq_true rfl) dX1_act_205 ⟨Nat.zero_le _, Nat.zero_le _⟩ (fun H locs hP hD hS => ?_)
                          exact z_reti hx hb hr hlocks rfl hK hP hD hS ((if_neg t4_0).trans ((if_neg t4_1).trans ((if_neg t4_2).trans ((if_neg t4_3).trans ((if_neg t4_4).trans ((if_neg t4_5).trans ((if_neg t4_6).trans ((if_neg t4_7).trans ((if_neg t4_8).trans ((if_neg t4_9).trans ((if_neg t4_10).trans ((if_neg t4_11).trans (z_eta _))))))))))))) dX1_act_208
