theorem z_tk0 {n : Int32} (h1 : ¬ n < 1) (h2 : n ≤ 6) : ∃ a b, n = nI a ∧ (0 : Int32) = nI b ∧ a ≤ 6 ∧ b ≤ a ∧ a < b + 7 := by
  rw [Int32.lt_iff_toInt_lt] at h1
  rw [Int32.le_iff_toInt_le] at h2
  have e1 : (1 : Int32).toInt = 1 := by decide
  have e6 : (6 : Int32).toInt = 6 := by decide
  exact ⟨n.toInt.toNat, 0, Int32.toInt_inj.mp (by rw [nI_toInt (by omega)]; omega), rfl, by omega, Nat.zero_le _, by omega⟩
noncomputable def xf_take  (n : Int32) (σ : SX) : Int32 × SX := if n < 1 then ((-3), σ) else (if n ≤ 6 then (xf_takeL 7 n 0 (xs_bic σ 0)) else ((-3), σ))
set_option maxRecDepth 100000 in
set_option maxHeartbeats 4000000 in
theorem cx_take (l : Launch) (D : va_G) (O : Nat → Nat) (K : Nat → ClassId) (ad : Nat → Nat) (n : Int32) (σ : SX) (hok : xok σ) : cI l yX1_take wsX1_take { frames := 102, cells := 0, slots := 0, locals := 10200 } 0 0 D (xT K) (xW O K ad) σ [.ref (O 0), .int n] (xf_take n σ) := by
  intro sz
  refine z_start (cc := cX1_take) (maxL := 3) (ret := (some .int)) (Qc := fun A => va_Qi (fun r9 u9 => r9 = (xf_take n σ).1 ∧ u9 = (xf_take n σ).2) (zB D (xT K) (xW O K ad) A) A) sz (by decide) rfl (Nat.le_of_ble_eq_true rfl) ?_
  intro p e s m below meth c A X hA hK hP hD hS ls hl
  obtain ⟨hx, hb, hr, hml, hts, hown, hlocks, hnm⟩ := X
  have hown : s.vm.findClass RX1 = some m.cls := hown
  have hl : lv_has ls 3 [(0, .ref (O 0)), (1, .int n)] := hl
  have inW : ∀ w ∈ wsX10, w ∈ wsX1_take := fun w h => List.mem_cons_of_mem _ (List.mem_append_left _ (List.mem_append_right _ h))
  have XX : CallFix p m c cX1_take 3 s _ wsX1_take RX1 := ⟨hx, hb, hml, hown, hts⟩
  have k66 := hts (.fieldLink RX1 66 "MailRoom" "begunInCall" "I") (List.mem_of_getElem? (i := 1) rfl)
  refine lv_iload_n hx hb dX1_take_0 rfl (lv_at hl 1 rfl) ?_
  refine lv_iconst (v := 1) hx hb dX1_take_1 (by decide) ?_
  refine lv_icmp_lt (tgt := 11) hx hb dX1_take_2 (by decide) (fun c2 => ?_) (fun c2 => ?_)
  · refine lv_bipush (v := (-3)) hx hb dX1_take_11 (by decide) ?_
    exact z_reti hx hb hr hlocks rfl hK hP hD hS ((if_pos c2).trans (rfl)) dX1_take_13
  · refine lv_iload_n hx hb dX1_take_5 rfl (lv_at hl 1 rfl) ?_
    refine lv_bipush (v := 6) hx hb dX1_take_6 (by decide) ?_
    refine lv_icmp_le (tgt := 14) hx hb dX1_take_8 (by decide) (fun c8 => ?_) (fun c8 => ?_)
    · refine lv_aload_n hx hb dX1_take_14 rfl (lv_at hl 0 rfl) ?_
      refine lv_iconst (v := 0) hx hb dX1_take_15 (by decide) ?_
      refine x_pi_bic hx hb hts inW hown hK hP hD hS k66 dX1_take_16 (fun H locs hP hD hS => ?_)
      refine lv_iconst (v := 0) hx hb dX1_take_19 (by decide) ?_
      refine lv_istore_n (lv' := [(2, .int 0), (0, .ref (O 0)), (1, .int n)]) hx hb dX1_take_20 rfl hl (by decide) rfl (fun ls hl => ?_)
      exact cx_takeL XX hr hlocks hA hK n _ 7 0 (xs_bic σ 0) ((xpres.of (xr_n_bic _ _) (xr_hd_bic _ _) (xr_tab_bic _ _)).2 hok) ((if_neg c2).trans (if_pos c8)).symm (z_tk0 c2 c8) H locs ls hP hD hS (lv_sub hl [1, 2, 0] rfl)
    · refine lv_bipush (v := (-3)) hx hb dX1_take_11 (by decide) ?_
      exact z_reti hx hb hr hlocks rfl hK hP hD hS ((if_neg c2).trans ((if_neg c8).trans (rfl))) dX1_take_13
