noncomputable def x00 : SX := (fun _ => 0, fun _ => 0, fun _ => none, 0, fun _ => 0, fun _ => 0, 0, 0, 0, fun _ => 0, fun _ => 0, fun _ => 0, 0, 0, 0, 0, fun _ => (0, 0, 0, 0, 0, none, none, 0))
abbrev xF0 : List Value := [.null, .null, .null, .int 0, .null, .null, .int 0, .int 0, .int 0, .null, .null, .null, .int 0, .int 0, .int 0]
theorem okr_none {n : Nat} : okr n none := fun j h => by cases h
theorem okr_mono {a b : Nat} {r : Option Nat} (h : okr a r) (hab : a ≤ b) : okr b r := fun j e => Nat.lt_of_lt_of_le (h j e) hab
/-- a handler more, that stands at k -/
noncomputable abbrev xPush (σ : SX) (k : Nat) (h : HR) : SX := xs_hd (xs_n (xs_tab σ (va_up (x_tab σ) (x_n σ) h)) (x_n σ + 1)) (va_up (x_hd σ) k (some (x_n σ)))
theorem xPush_n (σ : SX) (k : Nat) (h : HR) : x_n (xPush σ k h) = x_n σ + 1 := (xr_n_hd _ _).trans (xw_n _ _)
theorem xPush_hd (σ : SX) (k : Nat) (h : HR) : x_hd (xPush σ k h) = va_up (x_hd σ) k (some (x_n σ)) := xw_hd _ _
theorem xPush_tab (σ : SX) (k : Nat) (h : HR) : x_tab (xPush σ k h) = va_up (x_tab σ) (x_n σ) h := (xr_tab_hd _ _).trans ((xr_tab_n _ _).trans (xw_tab _ _))
theorem xok_push {σ : SX} {k : Nat} {h : HR} (hok : xok σ) (h1 : okr (x_n σ) (h_former h)) (h2 : okr (x_n σ) (h_other h)) : xok (xPush σ k h) := by
  unfold xok
  rw [xPush_n, xPush_hd, xPush_tab]
  refine ⟨fun j => ?_, fun i => ?_⟩
  · by_cases e : j = k
    · subst e
      rw [va_up_self]
      intro i hi
      cases hi
      omega
    · rw [va_up_ne _ _ e]
      exact okr_mono (hok.1 j) (by omega)
  · by_cases e : i = x_n σ
    · subst e
      rw [va_up_self]
      exact ⟨okr_mono h1 (by omega), okr_mono h2 (by omega)⟩
    · rw [va_up_ne _ _ e]
      exact ⟨okr_mono (hok.2 i).1 (by omega), okr_mono (hok.2 i).2 (by omega)⟩
theorem xok_00 : xok x00 := ⟨fun _ => okr_none, fun _ => ⟨okr_none, okr_none⟩⟩
noncomputable def x01 : SX := xPush x00 ((0 : Int32).toNatClampNeg) (0, 0, 0, 0, 0, none, none, 0)
noncomputable def xInit : SX := xPush x01 ((1 : Int32).toNatClampNeg) (1, 12, 1, 0, -1, none, none, 0)
theorem xok_01 : xok x01 := xok_push xok_00 okr_none okr_none
theorem xok_init : xok xInit := xok_push xok_01 okr_none okr_none
set_option maxRecDepth 100000 in
set_option maxHeartbeats 4000000 in
theorem cx_init (l : Launch) (D : va_G) (o sz : Nat) : Met l yX1_init wsX1_init { frames := 3, cells := 10, slots := 208, locals := 300 } (zPE (va_AO "MailRoom$Handler") D [.ref o] [(o, .inr (1, xF0))] sz) (va_Qv (fun u9 : (Nat → Nat) × (Nat → ClassId) × (Nat → Nat) => u9.1 0 = o) (zBo D (fun u9 => xT u9.2.1) (fun u9 => xW u9.1 u9.2.1 u9.2.2 xInit) (va_A [(o, .inr (1, xF0))] sz)) (va_A [(o, .inr (1, xF0))] sz)) 10 208 (va_A [(o, .inr (1, xF0))] sz) := by
  refine z_startE (cc := cX1_init) (maxL := 1) (ret := none) (Qc := fun A => va_Qv (fun u9 : (Nat → Nat) × (Nat → ClassId) × (Nat → Nat) => u9.1 0 = o) (zBo D (fun u9 => xT u9.2.1) (fun u9 => xW u9.1 u9.2.1 u9.2.2 xInit) A) A) sz (by decide) rfl (Nat.le_of_ble_eq_true rfl) ?_
  intro p e s m below meth c A X hE hA hK hP hD hS ls hl
  obtain ⟨hx, hb, hr, hml, hts, hown, hlocks, hnm⟩ := X
  have hown : s.vm.findClass RX1 = some m.cls := hown
  have hl : lv_has ls 1 [(0, .ref o)] := hl
  have inW : ∀ w ∈ wsX10, w ∈ wsX1_init := fun w h => List.mem_cons_of_mem _ (List.mem_append_left _ (List.mem_append_right _ h))
  have XX : CallFix p m c cX1_init 1 s _ wsX1_init RX1 := ⟨hx, hb, hml, hown, hts⟩
  refine lv_aload_n hx hb dX1_init_0 rfl (lv_at hl 0 rfl) ?_
  refine W.objInit hx hb hown (hts (.methodLink RX1 1 objectInit) (List.mem_of_getElem? (i := 1) rfl)) (hts (.instanceMethod objectInit) (List.mem_of_getElem? (i := 2) rfl)) (hts _ (List.mem_of_getElem? (i := 3) rfl)) rfl (by rw [hml]; exact hl.1) rfl dX1_init_1 (Nat.le_of_ble_eq_true rfl) (Nat.le_of_ble_eq_true rfl) ?_
  refine W.eq (g2 := F0 m 4 ls []) rfl ?_
  have inX0 : ∀ w ∈ wsX00, w ∈ wsX1_init := fun w h => List.mem_cons_of_mem _ (List.mem_append_right _ h)
  refine lv_aload_n hx hb dX1_init_4 rfl (lv_at hl 0 rfl) ?_
  refine lv_bipush (v := 6) hx hb dX1_init_5 (by decide) ?_
  refine va_newa (atype := .long) (N' := 6) (a0 := (6, .inr (.inl (fun _ => 0)))) (ty := .long) hx hb (hts (.arrayClass .long) (List.mem_of_getElem? (i := 4) rfl)) rfl hK hP hD hS hA (fun cA => rfl) (by decide) (by decide) (Nat.le_of_ble_eq_true rfl) (Nat.le_of_ble_eq_true rfl) (Nat.le_of_ble_eq_true rfl) dX1_init_7 (fun q1 K1 H hK hP hD hS => ?_)
  have hP : va_P D vwCl [(o, .inr (1, [.null, .null, .null, .int 0, .null, .null, .int 0, .int 0, .int 0, .null, .null, .null, .int 0, .int 0, .int 0])), (q1, .inl (K1, 6, .inr (.inl (fun _ => 0))))] H := hP
  have hD : va_D A [(o, .inr (1, [.null, .null, .null, .int 0, .null, .null, .int 0, .int 0, .int 0, .null, .null, .null, .int 0, .int 0, .int 0])), (q1, .inl (K1, 6, .inr (.inl (fun _ => 0))))] := hD
  have hK : va_K D vwCl [(K1, .long)] s := hK
  refine va_putF (ci := 1) (v := .ref q1) (ty := .array .long) (C := RX1) (T := TX1) (N := 15) hx hb hts inW tyX1 tyX1_ok nmX1 hown hK hP hD hS 0 rfl rfl 0 (by decide) (hts (.fieldLink RX1 9 "MailRoom" "boxSums" "[J") (List.mem_of_getElem? (i := 5) rfl)) (fun _ h9 => h9) rfl hnm rfl (by decide +kernel) rfl rfl (Nat.le_of_ble_eq_true rfl) dX1_init_9 (fun H locs hP hD hS => ?_)
  have hP : va_P D vwCl [(o, .inr (1, [.ref q1, .null, .null, .int 0, .null, .null, .int 0, .int 0, .int 0, .null, .null, .null, .int 0, .int 0, .int 0])), (q1, .inl (K1, 6, .inr (.inl (fun _ => 0))))] H := hP
  have hD : va_D A [(o, .inr (1, [.ref q1, .null, .null, .int 0, .null, .null, .int 0, .int 0, .int 0, .null, .null, .null, .int 0, .int 0, .int 0])), (q1, .inl (K1, 6, .inr (.inl (fun _ => 0))))] := hD
  refine lv_aload_n hx hb dX1_init_12 rfl (lv_at hl 0 rfl) ?_
  refine lv_bipush (v := 6) hx hb dX1_init_13 (by decide) ?_
  refine va_newa (atype := .int) (N' := 6) (a0 := (6, .inl (fun _ => 0))) (ty := .int) hx hb (hts (.arrayClass .int) (List.mem_of_getElem? (i := 6) rfl)) rfl hK hP hD hS hA (fun cA => rfl) (by decide) (by decide) (Nat.le_of_ble_eq_true rfl) (Nat.le_of_ble_eq_true rfl) (Nat.le_of_ble_eq_true rfl) dX1_init_15 (fun q2 K2 H hK hP hD hS => ?_)
  have hP : va_P D vwCl [(o, .inr (1, [.ref q1, .null, .null, .int 0, .null, .null, .int 0, .int 0, .int 0, .null, .null, .null, .int 0, .int 0, .int 0])), (q1, .inl (K1, 6, .inr (.inl (fun _ => 0)))), (q2, .inl (K2, 6, .inl (fun _ => 0)))] H := hP
  have hD : va_D A [(o, .inr (1, [.ref q1, .null, .null, .int 0, .null, .null, .int 0, .int 0, .int 0, .null, .null, .null, .int 0, .int 0, .int 0])), (q1, .inl (K1, 6, .inr (.inl (fun _ => 0)))), (q2, .inl (K2, 6, .inl (fun _ => 0)))] := hD
  have hK : va_K D vwCl [(K1, .long), (K2, .int)] s := hK
  refine va_putF (ci := 1) (v := .ref q2) (ty := .array .int) (C := RX1) (T := TX1) (N := 15) hx hb hts inW tyX1 tyX1_ok nmX1 hown hK hP hD hS 0 rfl rfl 1 (by decide) (hts (.fieldLink RX1 13 "MailRoom" "boxCounts" "[I") (List.mem_of_getElem? (i := 7) rfl)) (fun _ h9 => h9) rfl hnm rfl (by decide +kernel) rfl rfl (Nat.le_of_ble_eq_true rfl) dX1_init_17 (fun H locs hP hD hS => ?_)
  have hP : va_P D vwCl [(o, .inr (1, [.ref q1, .ref q2, .null, .int 0, .null, .null, .int 0, .int 0, .int 0, .null, .null, .null, .int 0, .int 0, .int 0])), (q1, .inl (K1, 6, .inr (.inl (fun _ => 0)))), (q2, .inl (K2, 6, .inl (fun _ => 0)))] H := hP
  have hD : va_D A [(o, .inr (1, [.ref q1, .ref q2, .null, .int 0, .null, .null, .int 0, .int 0, .int 0, .null, .null, .null, .int 0, .int 0, .int 0])), (q1, .inl (K1, 6, .inr (.inl (fun _ => 0)))), (q2, .inl (K2, 6, .inl (fun _ => 0)))] := hD
  refine lv_aload_n hx hb dX1_init_20 rfl (lv_at hl 0 rfl) ?_
  refine lv_bipush (v := 10) hx hb dX1_init_21 (by decide) ?_
  refine va_newq (N' := 10) hx hb hown (hts (.classLink RX1 17 RX0) (List.mem_of_getElem? (i := 8) rfl)) hE hK hP hD hS hA (by decide) (by decide) (by decide) (Nat.le_of_ble_eq_true rfl) (Nat.le_of_ble_eq_true rfl) dX1_init_23 (fun q3 K3 H hK hP hD hS => ?_)
  have hP : va_P D vwCl [(o, .inr (1, [.ref q1, .ref q2, .null, .int 0, .null, .null, .int 0, .int 0, .int 0, .null, .null, .null, .int 0, .int 0, .int 0])), (q1, .inl (K1, 6, .inr (.inl (fun _ => 0)))), (q2, .inl (K2, 6, .inl (fun _ => 0))), (q3, .inl (K3, 10, .inr (.inr (.inr (.inr (fun _ => none))))))] H := hP
  have hD : va_D A [(o, .inr (1, [.ref q1, .ref q2, .null, .int 0, .null, .null, .int 0, .int 0, .int 0, .null, .null, .null, .int 0, .int 0, .int 0])), (q1, .inl (K1, 6, .inr (.inl (fun _ => 0)))), (q2, .inl (K2, 6, .inl (fun _ => 0))), (q3, .inl (K3, 10, .inr (.inr (.inr (.inr (fun _ => none))))))] := hD
  have hK : va_K D vwCl [(K1, .long), (K2, .int), (K3, .object "MailRoom$Handler")] s := hK
  refine va_putF (ci := 1) (v := .ref q3) (ty := .array (.object "MailRoom$Handler")) (C := RX1) (T := TX1) (N := 15) hx hb hts inW tyX1 tyX1_ok nmX1 hown hK hP hD hS 0 rfl rfl 2 (by decide) (hts (.fieldLink RX1 19 "MailRoom" "handlers" "[LMailRoom$Handler;") (List.mem_of_getElem? (i := 9) rfl)) (fun _ h9 => h9) rfl hnm rfl (by decide +kernel) rfl rfl (Nat.le_of_ble_eq_true rfl) dX1_init_26 (fun H locs hP hD hS => ?_)
  have hP : va_P D vwCl [(o, .inr (1, [.ref q1, .ref q2, .ref q3, .int 0, .null, .null, .int 0, .int 0, .int 0, .null, .null, .null, .int 0, .int 0, .int 0])), (q1, .inl (K1, 6, .inr (.inl (fun _ => 0)))), (q2, .inl (K2, 6, .inl (fun _ => 0))), (q3, .inl (K3, 10, .inr (.inr (.inr (.inr (fun _ => none))))))] H := hP
  have hD : va_D A [(o, .inr (1, [.ref q1, .ref q2, .ref q3, .int 0, .null, .null, .int 0, .int 0, .int 0, .null, .null, .null, .int 0, .int 0, .int 0])), (q1, .inl (K1, 6, .inr (.inl (fun _ => 0)))), (q2, .inl (K2, 6, .inl (fun _ => 0))), (q3, .inl (K3, 10, .inr (.inr (.inr (.inr (fun _ => none))))))] := hD
  refine lv_aload_n hx hb dX1_init_29 rfl (lv_at hl 0 rfl) ?_
  refine lv_bipush (v := 40) hx hb dX1_init_30 (by decide) ?_
  refine va_newa (atype := .int) (N' := 40) (a0 := (40, .inl (fun _ => 0))) (ty := .int) hx hb (hts (.arrayClass .int) (List.mem_of_getElem? (i := 6) rfl)) rfl hK hP hD hS hA (fun cA => rfl) (by decide) (by decide) (Nat.le_of_ble_eq_true rfl) (Nat.le_of_ble_eq_true rfl) (Nat.le_of_ble_eq_true rfl) dX1_init_32 (fun q4 K4 H hK hP hD hS => ?_)
  have hP : va_P D vwCl [(o, .inr (1, [.ref q1, .ref q2, .ref q3, .int 0, .null, .null, .int 0, .int 0, .int 0, .null, .null, .null, .int 0, .int 0, .int 0])), (q1, .inl (K1, 6, .inr (.inl (fun _ => 0)))), (q2, .inl (K2, 6, .inl (fun _ => 0))), (q3, .inl (K3, 10, .inr (.inr (.inr (.inr (fun _ => none)))))), (q4, .inl (K4, 40, .inl (fun _ => 0)))] H := hP
  have hD : va_D A [(o, .inr (1, [.ref q1, .ref q2, .ref q3, .int 0, .null, .null, .int 0, .int 0, .int 0, .null, .null, .null, .int 0, .int 0, .int 0])), (q1, .inl (K1, 6, .inr (.inl (fun _ => 0)))), (q2, .inl (K2, 6, .inl (fun _ => 0))), (q3, .inl (K3, 10, .inr (.inr (.inr (.inr (fun _ => none)))))), (q4, .inl (K4, 40, .inl (fun _ => 0)))] := hD
  have hK : va_K D vwCl [(K1, .long), (K2, .int), (K3, .object "MailRoom$Handler"), (K4, .int)] s := hK
  refine va_putF (ci := 1) (v := .ref q4) (ty := .array .int) (C := RX1) (T := TX1) (N := 15) hx hb hts inW tyX1 tyX1_ok nmX1 hown hK hP hD hS 0 rfl rfl 4 (by decide) (hts (.fieldLink RX1 23 "MailRoom" "queueKinds" "[I") (List.mem_of_getElem? (i := 10) rfl)) (fun _ h9 => h9) rfl hnm rfl (by decide +kernel) rfl rfl (Nat.le_of_ble_eq_true rfl) dX1_init_34 (fun H locs hP hD hS => ?_)
  have hP : va_P D vwCl [(o, .inr (1, [.ref q1, .ref q2, .ref q3, .int 0, .ref q4, .null, .int 0, .int 0, .int 0, .null, .null, .null, .int 0, .int 0, .int 0])), (q1, .inl (K1, 6, .inr (.inl (fun _ => 0)))), (q2, .inl (K2, 6, .inl (fun _ => 0))), (q3, .inl (K3, 10, .inr (.inr (.inr (.inr (fun _ => none)))))), (q4, .inl (K4, 40, .inl (fun _ => 0)))] H := hP
  have hD : va_D A [(o, .inr (1, [.ref q1, .ref q2, .ref q3, .int 0, .ref q4, .null, .int 0, .int 0, .int 0, .null, .null, .null, .int 0, .int 0, .int 0])), (q1, .inl (K1, 6, .inr (.inl (fun _ => 0)))), (q2, .inl (K2, 6, .inl (fun _ => 0))), (q3, .inl (K3, 10, .inr (.inr (.inr (.inr (fun _ => none)))))), (q4, .inl (K4, 40, .inl (fun _ => 0)))] := hD
  refine lv_aload_n hx hb dX1_init_37 rfl (lv_at hl 0 rfl) ?_
  refine lv_bipush (v := 40) hx hb dX1_init_38 (by decide) ?_
  refine va_newa (atype := .long) (N' := 40) (a0 := (40, .inr (.inl (fun _ => 0)))) (ty := .long) hx hb (hts (.arrayClass .long) (List.mem_of_getElem? (i := 4) rfl)) rfl hK hP hD hS hA (fun cA => rfl) (by decide) (by decide) (Nat.le_of_ble_eq_true rfl) (Nat.le_of_ble_eq_true rfl) (Nat.le_of_ble_eq_true rfl) dX1_init_40 (fun q5 K5 H hK hP hD hS => ?_)
  have hP : va_P D vwCl [(o, .inr (1, [.ref q1, .ref q2, .ref q3, .int 0, .ref q4, .null, .int 0, .int 0, .int 0, .null, .null, .null, .int 0, .int 0, .int 0])), (q1, .inl (K1, 6, .inr (.inl (fun _ => 0)))), (q2, .inl (K2, 6, .inl (fun _ => 0))), (q3, .inl (K3, 10, .inr (.inr (.inr (.inr (fun _ => none)))))), (q4, .inl (K4, 40, .inl (fun _ => 0))), (q5, .inl (K5, 40, .inr (.inl (fun _ => 0))))] H := hP
  have hD : va_D A [(o, .inr (1, [.ref q1, .ref q2, .ref q3, .int 0, .ref q4, .null, .int 0, .int 0, .int 0, .null, .null, .null, .int 0, .int 0, .int 0])), (q1, .inl (K1, 6, .inr (.inl (fun _ => 0)))), (q2, .inl (K2, 6, .inl (fun _ => 0))), (q3, .inl (K3, 10, .inr (.inr (.inr (.inr (fun _ => none)))))), (q4, .inl (K4, 40, .inl (fun _ => 0))), (q5, .inl (K5, 40, .inr (.inl (fun _ => 0))))] := hD
  have hK : va_K D vwCl [(K1, .long), (K2, .int), (K3, .object "MailRoom$Handler"), (K4, .int), (K5, .long)] s := hK
  refine va_putF (ci := 1) (v := .ref q5) (ty := .array .long) (C := RX1) (T := TX1) (N := 15) hx hb hts inW tyX1 tyX1_ok nmX1 hown hK hP hD hS 0 rfl rfl 5 (by decide) (hts (.fieldLink RX1 26 "MailRoom" "queueValues" "[J") (List.mem_of_getElem? (i := 11) rfl)) (fun _ h9 => h9) rfl hnm rfl (by decide +kernel) rfl rfl (Nat.le_of_ble_eq_true rfl) dX1_init_42 (fun H locs hP hD hS => ?_)
  have hP : va_P D vwCl [(o, .inr (1, [.ref q1, .ref q2, .ref q3, .int 0, .ref q4, .ref q5, .int 0, .int 0, .int 0, .null, .null, .null, .int 0, .int 0, .int 0])), (q1, .inl (K1, 6, .inr (.inl (fun _ => 0)))), (q2, .inl (K2, 6, .inl (fun _ => 0))), (q3, .inl (K3, 10, .inr (.inr (.inr (.inr (fun _ => none)))))), (q4, .inl (K4, 40, .inl (fun _ => 0))), (q5, .inl (K5, 40, .inr (.inl (fun _ => 0))))] H := hP
  have hD : va_D A [(o, .inr (1, [.ref q1, .ref q2, .ref q3, .int 0, .ref q4, .ref q5, .int 0, .int 0, .int 0, .null, .null, .null, .int 0, .int 0, .int 0])), (q1, .inl (K1, 6, .inr (.inl (fun _ => 0)))), (q2, .inl (K2, 6, .inl (fun _ => 0))), (q3, .inl (K3, 10, .inr (.inr (.inr (.inr (fun _ => none)))))), (q4, .inl (K4, 40, .inl (fun _ => 0))), (q5, .inl (K5, 40, .inr (.inl (fun _ => 0))))] := hD
  refine lv_aload_n hx hb dX1_init_45 rfl (lv_at hl 0 rfl) ?_
  refine lv_bipush (v := 30) hx hb dX1_init_46 (by decide) ?_
  refine va_newa (atype := .int) (N' := 30) (a0 := (30, .inl (fun _ => 0))) (ty := .int) hx hb (hts (.arrayClass .int) (List.mem_of_getElem? (i := 6) rfl)) rfl hK hP hD hS hA (fun cA => rfl) (by decide) (by decide) (Nat.le_of_ble_eq_true rfl) (Nat.le_of_ble_eq_true rfl) (Nat.le_of_ble_eq_true rfl) dX1_init_48 (fun q6 K6 H hK hP hD hS => ?_)
  have hP : va_P D vwCl [(o, .inr (1, [.ref q1, .ref q2, .ref q3, .int 0, .ref q4, .ref q5, .int 0, .int 0, .int 0, .null, .null, .null, .int 0, .int 0, .int 0])), (q1, .inl (K1, 6, .inr (.inl (fun _ => 0)))), (q2, .inl (K2, 6, .inl (fun _ => 0))), (q3, .inl (K3, 10, .inr (.inr (.inr (.inr (fun _ => none)))))), (q4, .inl (K4, 40, .inl (fun _ => 0))), (q5, .inl (K5, 40, .inr (.inl (fun _ => 0)))), (q6, .inl (K6, 30, .inl (fun _ => 0)))] H := hP
  have hD : va_D A [(o, .inr (1, [.ref q1, .ref q2, .ref q3, .int 0, .ref q4, .ref q5, .int 0, .int 0, .int 0, .null, .null, .null, .int 0, .int 0, .int 0])), (q1, .inl (K1, 6, .inr (.inl (fun _ => 0)))), (q2, .inl (K2, 6, .inl (fun _ => 0))), (q3, .inl (K3, 10, .inr (.inr (.inr (.inr (fun _ => none)))))), (q4, .inl (K4, 40, .inl (fun _ => 0))), (q5, .inl (K5, 40, .inr (.inl (fun _ => 0)))), (q6, .inl (K6, 30, .inl (fun _ => 0)))] := hD
  have hK : va_K D vwCl [(K1, .long), (K2, .int), (K3, .object "MailRoom$Handler"), (K4, .int), (K5, .long), (K6, .int)] s := hK
  refine va_putF (ci := 1) (v := .ref q6) (ty := .array .int) (C := RX1) (T := TX1) (N := 15) hx hb hts inW tyX1 tyX1_ok nmX1 hown hK hP hD hS 0 rfl rfl 9 (by decide) (hts (.fieldLink RX1 29 "MailRoom" "failedKinds" "[I") (List.mem_of_getElem? (i := 12) rfl)) (fun _ h9 => h9) rfl hnm rfl (by decide +kernel) rfl rfl (Nat.le_of_ble_eq_true rfl) dX1_init_50 (fun H locs hP hD hS => ?_)
  have hP : va_P D vwCl [(o, .inr (1, [.ref q1, .ref q2, .ref q3, .int 0, .ref q4, .ref q5, .int 0, .int 0, .int 0, .ref q6, .null, .null, .int 0, .int 0, .int 0])), (q1, .inl (K1, 6, .inr (.inl (fun _ => 0)))), (q2, .inl (K2, 6, .inl (fun _ => 0))), (q3, .inl (K3, 10, .inr (.inr (.inr (.inr (fun _ => none)))))), (q4, .inl (K4, 40, .inl (fun _ => 0))), (q5, .inl (K5, 40, .inr (.inl (fun _ => 0)))), (q6, .inl (K6, 30, .inl (fun _ => 0)))] H := hP
  have hD : va_D A [(o, .inr (1, [.ref q1, .ref q2, .ref q3, .int 0, .ref q4, .ref q5, .int 0, .int 0, .int 0, .ref q6, .null, .null, .int 0, .int 0, .int 0])), (q1, .inl (K1, 6, .inr (.inl (fun _ => 0)))), (q2, .inl (K2, 6, .inl (fun _ => 0))), (q3, .inl (K3, 10, .inr (.inr (.inr (.inr (fun _ => none)))))), (q4, .inl (K4, 40, .inl (fun _ => 0))), (q5, .inl (K5, 40, .inr (.inl (fun _ => 0)))), (q6, .inl (K6, 30, .inl (fun _ => 0)))] := hD
  refine lv_aload_n hx hb dX1_init_53 rfl (lv_at hl 0 rfl) ?_
  refine lv_bipush (v := 30) hx hb dX1_init_54 (by decide) ?_
  refine va_newa (atype := .int) (N' := 30) (a0 := (30, .inl (fun _ => 0))) (ty := .int) hx hb (hts (.arrayClass .int) (List.mem_of_getElem? (i := 6) rfl)) rfl hK hP hD hS hA (fun cA => rfl) (by decide) (by decide) (Nat.le_of_ble_eq_true rfl) (Nat.le_of_ble_eq_true rfl) (Nat.le_of_ble_eq_true rfl) dX1_init_56 (fun q7 K7 H hK hP hD hS => ?_)
  have hP : va_P D vwCl [(o, .inr (1, [.ref q1, .ref q2, .ref q3, .int 0, .ref q4, .ref q5, .int 0, .int 0, .int 0, .ref q6, .null, .null, .int 0, .int 0, .int 0])), (q1, .inl (K1, 6, .inr (.inl (fun _ => 0)))), (q2, .inl (K2, 6, .inl (fun _ => 0))), (q3, .inl (K3, 10, .inr (.inr (.inr (.inr (fun _ => none)))))), (q4, .inl (K4, 40, .inl (fun _ => 0))), (q5, .inl (K5, 40, .inr (.inl (fun _ => 0)))), (q6, .inl (K6, 30, .inl (fun _ => 0))), (q7, .inl (K7, 30, .inl (fun _ => 0)))] H := hP
  have hD : va_D A [(o, .inr (1, [.ref q1, .ref q2, .ref q3, .int 0, .ref q4, .ref q5, .int 0, .int 0, .int 0, .ref q6, .null, .null, .int 0, .int 0, .int 0])), (q1, .inl (K1, 6, .inr (.inl (fun _ => 0)))), (q2, .inl (K2, 6, .inl (fun _ => 0))), (q3, .inl (K3, 10, .inr (.inr (.inr (.inr (fun _ => none)))))), (q4, .inl (K4, 40, .inl (fun _ => 0))), (q5, .inl (K5, 40, .inr (.inl (fun _ => 0)))), (q6, .inl (K6, 30, .inl (fun _ => 0))), (q7, .inl (K7, 30, .inl (fun _ => 0)))] := hD
  have hK : va_K D vwCl [(K1, .long), (K2, .int), (K3, .object "MailRoom$Handler"), (K4, .int), (K5, .long), (K6, .int), (K7, .int)] s := hK
  refine va_putF (ci := 1) (v := .ref q7) (ty := .array .int) (C := RX1) (T := TX1) (N := 15) hx hb hts inW tyX1 tyX1_ok nmX1 hown hK hP hD hS 0 rfl rfl 10 (by decide) (hts (.fieldLink RX1 32 "MailRoom" "failedNumbers" "[I") (List.mem_of_getElem? (i := 13) rfl)) (fun _ h9 => h9) rfl hnm rfl (by decide +kernel) rfl rfl (Nat.le_of_ble_eq_true rfl) dX1_init_58 (fun H locs hP hD hS => ?_)
  have hP : va_P D vwCl [(o, .inr (1, [.ref q1, .ref q2, .ref q3, .int 0, .ref q4, .ref q5, .int 0, .int 0, .int 0, .ref q6, .ref q7, .null, .int 0, .int 0, .int 0])), (q1, .inl (K1, 6, .inr (.inl (fun _ => 0)))), (q2, .inl (K2, 6, .inl (fun _ => 0))), (q3, .inl (K3, 10, .inr (.inr (.inr (.inr (fun _ => none)))))), (q4, .inl (K4, 40, .inl (fun _ => 0))), (q5, .inl (K5, 40, .inr (.inl (fun _ => 0)))), (q6, .inl (K6, 30, .inl (fun _ => 0))), (q7, .inl (K7, 30, .inl (fun _ => 0)))] H := hP
  have hD : va_D A [(o, .inr (1, [.ref q1, .ref q2, .ref q3, .int 0, .ref q4, .ref q5, .int 0, .int 0, .int 0, .ref q6, .ref q7, .null, .int 0, .int 0, .int 0])), (q1, .inl (K1, 6, .inr (.inl (fun _ => 0)))), (q2, .inl (K2, 6, .inl (fun _ => 0))), (q3, .inl (K3, 10, .inr (.inr (.inr (.inr (fun _ => none)))))), (q4, .inl (K4, 40, .inl (fun _ => 0))), (q5, .inl (K5, 40, .inr (.inl (fun _ => 0)))), (q6, .inl (K6, 30, .inl (fun _ => 0))), (q7, .inl (K7, 30, .inl (fun _ => 0)))] := hD
  refine lv_aload_n hx hb dX1_init_61 rfl (lv_at hl 0 rfl) ?_
  refine lv_bipush (v := 30) hx hb dX1_init_62 (by decide) ?_
  refine va_newa (atype := .long) (N' := 30) (a0 := (30, .inr (.inl (fun _ => 0)))) (ty := .long) hx hb (hts (.arrayClass .long) (List.mem_of_getElem? (i := 4) rfl)) rfl hK hP hD hS hA (fun cA => rfl) (by decide) (by decide) (Nat.le_of_ble_eq_true rfl) (Nat.le_of_ble_eq_true rfl) (Nat.le_of_ble_eq_true rfl) dX1_init_64 (fun q8 K8 H hK hP hD hS => ?_)
  have hP : va_P D vwCl [(o, .inr (1, [.ref q1, .ref q2, .ref q3, .int 0, .ref q4, .ref q5, .int 0, .int 0, .int 0, .ref q6, .ref q7, .null, .int 0, .int 0, .int 0])), (q1, .inl (K1, 6, .inr (.inl (fun _ => 0)))), (q2, .inl (K2, 6, .inl (fun _ => 0))), (q3, .inl (K3, 10, .inr (.inr (.inr (.inr (fun _ => none)))))), (q4, .inl (K4, 40, .inl (fun _ => 0))), (q5, .inl (K5, 40, .inr (.inl (fun _ => 0)))), (q6, .inl (K6, 30, .inl (fun _ => 0))), (q7, .inl (K7, 30, .inl (fun _ => 0))), (q8, .inl (K8, 30, .inr (.inl (fun _ => 0))))] H := hP
  have hD : va_D A [(o, .inr (1, [.ref q1, .ref q2, .ref q3, .int 0, .ref q4, .ref q5, .int 0, .int 0, .int 0, .ref q6, .ref q7, .null, .int 0, .int 0, .int 0])), (q1, .inl (K1, 6, .inr (.inl (fun _ => 0)))), (q2, .inl (K2, 6, .inl (fun _ => 0))), (q3, .inl (K3, 10, .inr (.inr (.inr (.inr (fun _ => none)))))), (q4, .inl (K4, 40, .inl (fun _ => 0))), (q5, .inl (K5, 40, .inr (.inl (fun _ => 0)))), (q6, .inl (K6, 30, .inl (fun _ => 0))), (q7, .inl (K7, 30, .inl (fun _ => 0))), (q8, .inl (K8, 30, .inr (.inl (fun _ => 0))))] := hD
  have hK : va_K D vwCl [(K1, .long), (K2, .int), (K3, .object "MailRoom$Handler"), (K4, .int), (K5, .long), (K6, .int), (K7, .int), (K8, .long)] s := hK
  refine va_putF (ci := 1) (v := .ref q8) (ty := .array .long) (C := RX1) (T := TX1) (N := 15) hx hb hts inW tyX1 tyX1_ok nmX1 hown hK hP hD hS 0 rfl rfl 11 (by decide) (hts (.fieldLink RX1 35 "MailRoom" "failedValues" "[J") (List.mem_of_getElem? (i := 14) rfl)) (fun _ h9 => h9) rfl hnm rfl (by decide +kernel) rfl rfl (Nat.le_of_ble_eq_true rfl) dX1_init_66 (fun H locs hP hD hS => ?_)
  have hP : va_P D vwCl [(o, .inr (1, [.ref q1, .ref q2, .ref q3, .int 0, .ref q4, .ref q5, .int 0, .int 0, .int 0, .ref q6, .ref q7, .ref q8, .int 0, .int 0, .int 0])), (q1, .inl (K1, 6, .inr (.inl (fun _ => 0)))), (q2, .inl (K2, 6, .inl (fun _ => 0))), (q3, .inl (K3, 10, .inr (.inr (.inr (.inr (fun _ => none)))))), (q4, .inl (K4, 40, .inl (fun _ => 0))), (q5, .inl (K5, 40, .inr (.inl (fun _ => 0)))), (q6, .inl (K6, 30, .inl (fun _ => 0))), (q7, .inl (K7, 30, .inl (fun _ => 0))), (q8, .inl (K8, 30, .inr (.inl (fun _ => 0))))] H := hP
  have hD : va_D A [(o, .inr (1, [.ref q1, .ref q2, .ref q3, .int 0, .ref q4, .ref q5, .int 0, .int 0, .int 0, .ref q6, .ref q7, .ref q8, .int 0, .int 0, .int 0])), (q1, .inl (K1, 6, .inr (.inl (fun _ => 0)))), (q2, .inl (K2, 6, .inl (fun _ => 0))), (q3, .inl (K3, 10, .inr (.inr (.inr (.inr (fun _ => none)))))), (q4, .inl (K4, 40, .inl (fun _ => 0))), (q5, .inl (K5, 40, .inr (.inl (fun _ => 0)))), (q6, .inl (K6, 30, .inl (fun _ => 0))), (q7, .inl (K7, 30, .inl (fun _ => 0))), (q8, .inl (K8, 30, .inr (.inl (fun _ => 0))))] := hD
  obtain ⟨O, eO⟩ : ∃ O : Nat → Nat, O = (fun i => match i with | 0 => o | 1 => q1 | 2 => q2 | 3 => q3 | 4 => q4 | 5 => q5 | 6 => q6 | 7 => q7 | 8 => q8 | _ => 0) := ⟨_, rfl⟩
  obtain ⟨K, eK⟩ : ∃ K : Nat → ClassId, K = (fun i => match i with | 1 => K1 | 2 => K2 | 3 => K3 | 4 => K4 | 5 => K5 | 6 => K6 | 7 => K7 | 8 => K8 | _ => 0) := ⟨_, rfl⟩
  obtain ⟨ad, -⟩ : ∃ ad : Nat → Nat, ad = fun _ => 0 := ⟨_, rfl⟩
  have hPn : va_P D vwCl (xW O K ad x00) H := by rw [eO, eK]; exact hP
  have hDn : va_D A (xW O K ad x00) := by rw [eO, eK]; exact hD
  have hKn : va_K D vwCl (xT K) s := by rw [eK]; exact hK
  have e0 : o = O 0 := (congrFun eO 0).symm
  clear eO eK
  subst e0
  have hP : va_P D vwCl (xW O K ad x00) H := hPn
  have hD : va_D A (xW O K ad x00) := hDn
  have hK : va_K D vwCl (xT K) s := hKn
  refine lv_aload_n hx hb dX1_init_69 rfl (lv_at hl 0 rfl) ?_
  refine x_ga_3 hx hb hts inW hown hK hP (hts (.fieldLink RX1 19 "MailRoom" "handlers" "[LMailRoom$Handler;") (List.mem_of_getElem? (i := 9) rfl)) dX1_init_70 ?_
  refine lv_iconst (v := 0) hx hb dX1_init_73 (by decide) ?_
  refine va_new (ci := 0) (fs := hF0) (C := RX0) (T := TX0) (N := 8) hx hb hts inX0 tyX0 tyX0_ok hown (hts (.classLink RX1 17 RX0) (List.mem_of_getElem? (i := 8) rfl)) (hts (.instantiable RX0 8) (List.mem_of_getElem? (i := 15) rfl)) (hts (.initialized RX0) (List.mem_of_getElem? (i := 16) rfl)) hK hP hD hS hA rfl (fun j hj => by rcases (show j = 0 ∨ j = 1 ∨ j = 2 ∨ j = 3 ∨ j = 4 ∨ j = 5 ∨ j = 6 ∨ j = 7 by omega) with rfl | rfl | rfl | rfl | rfl | rfl | rfl | rfl <;> rfl) (Nat.le_of_ble_eq_true rfl) (Nat.le_of_ble_eq_true rfl) dX1_init_74 (fun z1 H hP hD hS => ?_)
  refine lv_dup hx hb dX1_init_77 rfl ?_
  refine lv_iconst (v := 0) hx hb dX1_init_78 (by decide) ?_
  refine lv_iconst (v := 0) hx hb dX1_init_79 (by decide) ?_
  refine lv_iconst (v := 0) hx hb dX1_init_80 (by decide) ?_
  refine lv_iconst (v := 0) hx hb dX1_init_81 (by decide) ?_
  refine lv_lconst (v := 0) hx hb dX1_init_82 (by decide) ?_
  refine z_null ad hx hb dX1_init_83 ?_
  refine z_null ad hx hb dX1_init_84 ?_
  have hP1 : va_P D vwCl (hW z1 hF0) H := zP_r hP
  have hD1 : va_D A (hW z1 hF0) := zD_r hD
  have hFc : ∀ z, va_A (hW z1 hF0) H.size z → A z := z_fc (wf := hW z1) (σ := hF0) hD1 hS hA
  have hK0 : va_K D vwCl [] s := hK.sub (tys' := []) [] rfl
  refine va_callv (va_runI (As := [.int 0, .int 0, .int 0, .int 0, .long 0, va_re ad none, va_re ad none]) (rest := [.ref z1, .int 0, .ref (O 3)]) XX (cx_hinit l D ad z1 0 0 0 0 0 none none H.size) (cwI 7 hts gX1_init_X0_init rfl rfl rfl (hts (.initialized RX0) (List.mem_of_getElem? (i := 16) rfl)) (hts (.methodLink RX1 38 yX0_init) (List.mem_of_getElem? (i := 18) rfl)) (hts (.instanceMethod yX0_init) (List.mem_of_getElem? (i := 19) rfl)) rfl (by decide +kernel) ⟨by decide, by decide⟩) ⟨z_blind, fun U hU hW => ⟨rfl, by rw [hU], by rw [hU]; exact hP1, va_K.moved hW.alike hK0, hD1.weaken (fun _ _ _ _ => trivial)⟩⟩ rfl rfl hl.1 rfl (lv_room (Nat.le_of_ble_eq_true rfl)) dX1_init_85 ⟨by decide, by decide⟩) hS (fun z _ h => hFc z h) hFc (fun u t H1 locs ht hvm hw hB hz1 hk1 hS => ?_)
  subst hw
  obtain ⟨hP2, hK2, hD2⟩ := hB
  rw [ht] at hP2
  obtain ⟨hP, hD⟩ := z_fr hP hD hk1 hFc hP2 hD2
  have e1 := xW_push (O := O) (K := K) (ad := ad) (σ := x00) (q := z1) (h := (0, 0, 0, 0, 0, none, none, 0)) xok_00 okr_none okr_none
  have hP : va_P D vwCl (xW O K ad x00 ++ [(z1, .inr (0, hFs ad (0, 0, 0, 0, 0, none, none, 0)))]) H1 := hP
  have hD : va_D A (xW O K ad x00 ++ [(z1, .inr (0, hFs ad (0, 0, 0, 0, 0, none, none, 0)))]) := hD
  rw [e1] at hP hD
  have e2 : va_re (va_up ad (x_n x00) z1) (some (x_n x00)) = .ref z1 := by
    show Value.ref (va_up ad (x_n x00) z1 (x_n x00)) = .ref z1
    rw [va_up_self]
  rw [← e2]
  refine x_astH (ad := (va_up ad (x_n x00) z1)) (r := some (x_n x00)) (i := 0) hx hb hK hP hD hS (fun j hj => by cases hj; rw [xw_n]; omega) (vp_in_nI (n := 0) (by decide) (by decide)) dX1_init_88 (fun H locs hP hD hS => ?_)
  have e3 : x_hd (xs_n (xs_tab x00 (va_up (x_tab x00) (x_n x00) (0, 0, 0, 0, 0, none, none, 0))) (x_n x00 + 1)) = x_hd x00 := (xr_hd_n _ _).trans (xr_hd_tab _ _)
  rw [e3] at hP hD
  obtain ⟨ad1, ea1⟩ : ∃ ad1 : Nat → Nat, ad1 = (va_up ad (x_n x00) z1) := ⟨_, rfl⟩
  have hP : va_P D vwCl (xW O K ad1 x01) H := by rw [ea1]; exact hP
  have hD : va_D A (xW O K ad1 x01) := by rw [ea1]; exact hD
  clear ea1 e1 e2 e3
  refine lv_aload_n hx hb dX1_init_89 rfl (lv_at hl 0 rfl) ?_
  refine x_ga_3 hx hb hts inW hown hK hP (hts (.fieldLink RX1 19 "MailRoom" "handlers" "[LMailRoom$Handler;") (List.mem_of_getElem? (i := 9) rfl)) dX1_init_90 ?_
  refine lv_iconst (v := 1) hx hb dX1_init_93 (by decide) ?_
  refine va_new (ci := 0) (fs := hF0) (C := RX0) (T := TX0) (N := 8) hx hb hts inX0 tyX0 tyX0_ok hown (hts (.classLink RX1 17 RX0) (List.mem_of_getElem? (i := 8) rfl)) (hts (.instantiable RX0 8) (List.mem_of_getElem? (i := 15) rfl)) (hts (.initialized RX0) (List.mem_of_getElem? (i := 16) rfl)) hK hP hD hS hA rfl (fun j hj => by rcases (show j = 0 ∨ j = 1 ∨ j = 2 ∨ j = 3 ∨ j = 4 ∨ j = 5 ∨ j = 6 ∨ j = 7 by omega) with rfl | rfl | rfl | rfl | rfl | rfl | rfl | rfl <;> rfl) (Nat.le_of_ble_eq_true rfl) (Nat.le_of_ble_eq_true rfl) dX1_init_94 (fun z2 H hP hD hS => ?_)
  refine lv_dup hx hb dX1_init_97 rfl ?_
  refine lv_iconst (v := 1) hx hb dX1_init_98 (by decide) ?_
  refine lv_bipush (v := 12) hx hb dX1_init_99 (by decide) ?_
  refine lv_iconst (v := 1) hx hb dX1_init_101 (by decide) ?_
  refine lv_iconst (v := 0) hx hb dX1_init_102 (by decide) ?_
  refine lv_ldc2 (v := (-1)) hx hb hown (hts (.constantLong RX1 41 (-1)) (List.mem_of_getElem? (i := 17) rfl)) dX1_init_103 ?_
  refine z_null ad1 hx hb dX1_init_106 ?_
  refine z_null ad1 hx hb dX1_init_107 ?_
  have hP1 : va_P D vwCl (hW z2 hF0) H := zP_r hP
  have hD1 : va_D A (hW z2 hF0) := zD_r hD
  have hFc : ∀ z, va_A (hW z2 hF0) H.size z → A z := z_fc (wf := hW z2) (σ := hF0) hD1 hS hA
  have hK0 : va_K D vwCl [] s := hK.sub (tys' := []) [] rfl
  refine va_callv (va_runI (As := [.int 1, .int 12, .int 1, .int 0, .long (-1), va_re ad1 none, va_re ad1 none]) (rest := [.ref z2, .int 1, .ref (O 3)]) XX (cx_hinit l D ad1 z2 1 12 1 0 (-1) none none H.size) (cwI 7 hts gX1_init_X0_init rfl rfl rfl (hts (.initialized RX0) (List.mem_of_getElem? (i := 16) rfl)) (hts (.methodLink RX1 38 yX0_init) (List.mem_of_getElem? (i := 18) rfl)) (hts (.instanceMethod yX0_init) (List.mem_of_getElem? (i := 19) rfl)) rfl (by decide +kernel) ⟨by decide, by decide⟩) ⟨z_blind, fun U hU hW => ⟨rfl, by rw [hU], by rw [hU]; exact hP1, va_K.moved hW.alike hK0, hD1.weaken (fun _ _ _ _ => trivial)⟩⟩ rfl rfl hl.1 rfl (lv_room (Nat.le_of_ble_eq_true rfl)) dX1_init_108 ⟨by decide, by decide⟩) hS (fun z _ h => hFc z h) hFc (fun u t H1 locs ht hvm hw hB hz1 hk1 hS => ?_)
  subst hw
  obtain ⟨hP2, hK2, hD2⟩ := hB
  rw [ht] at hP2
  obtain ⟨hP, hD⟩ := z_fr hP hD hk1 hFc hP2 hD2
  have e1 := xW_push (O := O) (K := K) (ad := ad1) (σ := x01) (q := z2) (h := (1, 12, 1, 0, (-1), none, none, 0)) xok_01 okr_none okr_none
  have hP : va_P D vwCl (xW O K ad1 x01 ++ [(z2, .inr (0, hFs ad1 (1, 12, 1, 0, (-1), none, none, 0)))]) H1 := hP
  have hD : va_D A (xW O K ad1 x01 ++ [(z2, .inr (0, hFs ad1 (1, 12, 1, 0, (-1), none, none, 0)))]) := hD
  rw [e1] at hP hD
  have e2 : va_re (va_up ad1 (x_n x01) z2) (some (x_n x01)) = .ref z2 := by
    show Value.ref (va_up ad1 (x_n x01) z2 (x_n x01)) = .ref z2
    rw [va_up_self]
  rw [← e2]
  refine x_astH (ad := (va_up ad1 (x_n x01) z2)) (r := some (x_n x01)) (i := 1) hx hb hK hP hD hS (fun j hj => by cases hj; rw [xw_n]; omega) (vp_in_nI (n := 1) (by decide) (by decide)) dX1_init_111 (fun H locs hP hD hS => ?_)
  have e3 : x_hd (xs_n (xs_tab x01 (va_up (x_tab x01) (x_n x01) (1, 12, 1, 0, (-1), none, none, 0))) (x_n x01 + 1)) = x_hd x01 := (xr_hd_n _ _).trans (xr_hd_tab _ _)
  rw [e3] at hP hD
  exact W.vret hx hb hr (fun t ht hW => ⟨⟨(O, K, (va_up ad1 (x_n x01) z2)), rfl, rfl, by rw [ht]; exact hP, va_K.moved hW.alike hK, hD⟩, hS.F ht⟩) hS.2.2 dX1_init_112 hlocks
