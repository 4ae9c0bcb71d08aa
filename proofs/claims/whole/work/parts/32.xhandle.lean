theorem z_nre {ad : Nat → Nat} {C : String} (r : Option Nat) : narrow (.object C) (va_re ad r) = va_re ad r := by
  cases r <;> rfl
theorem z_fre {ad : Nat → Nat} {C : String} (r : Option Nat) : fits (.object C) (va_re ad r) = true := by
  cases r <;> rfl
abbrev hW (q : Nat) (fs : List Value) : va_W := [(q, .inr (0, fs))]
abbrev hF0 : List Value := [.int 0, .int 0, .int 0, .int 0, .long 0, .null, .null, .int 0]
section ZRR
variable {p : Program} {l : Launch} {e : Env} {R : Room} {s : State} {m : MethodId} {args : Array Value} {below : List Frame} {meth : Method} {c : Code} {H : Heap} {locs : List Loc} {cells slots : Nat} {cc : ByteArray} {pc : Nat} {ls : Array Slot} {D : va_G} {A : Nat → Prop} {tys : List (ClassId × FieldType)} {S : Type} {wf : S → va_W}
theorem z_reti2 {v : Int32} {u : S} {post : Int32 → S → Prop} (hx : p.tables.exec = Jvm.exec) (hb : c.code = cc) (hr : meth.sig.returnType = some .int) (hlocks : meth.locks = false) (hK : va_K D vwCl tys s) (hP : va_P D vwCl (wf u) H) (hD : va_D A (wf u)) (hS : va_S A s.heap H locs) (hp : post v u) (hdg : decode cc pc = .ok (.ireturn, 1)) :
    W p l e R s m args below meth c H locs cells slots (MQ below (va_Qi post (zB D tys wf A) A) args s cells slots A) (F0 m pc ls [.int v]) :=
  W.iret hx hb hr (fun t ht hW => ⟨⟨v, u, rfl, hp, by rw [ht]; exact hP, va_K.moved hW.alike hK, hD⟩, hS.F ht⟩) hS.2.2 hdg hlocks
end ZRR
set_option maxRecDepth 100000 in
set_option maxHeartbeats 4000000 in
theorem cx_hinit (l : Launch) (D : va_G) (ad : Nat → Nat) (q : Nat) (k so a b : Int32) (w : Int64) (r1 r2 : Option Nat) : cV l yX0_init wsX0_init { frames := 1, cells := 0, slots := 0, locals := 100 } 0 0 D [] (hW q) hF0 [.ref q, .int k, .int so, .int a, .int b, .long w, va_re ad r1, va_re ad r2] (hFs ad (k, so, a, b, w, r1, r2, 0)) := by
  intro sz
  refine z_start (cc := cX0_init) (maxL := 9) (ret := none) (Qc := fun A => va_Qv (fun u9 => u9 = (hFs ad (k, so, a, b, w, r1, r2, 0))) (zB D [] (hW q) A) A) sz (by decide) rfl (by cases r1 <;> cases r2 <;> exact Nat.le_of_ble_eq_true rfl) ?_
  intro p e s m below meth c A X hA hK hP hD hS ls hl
  obtain ⟨hx, hb, hr, hml, hts, hown, hlocks, hnm⟩ := X
  have hown : s.vm.findClass RX0 = some m.cls := hown
  have hl : lv_has ls 9 [(0, .ref q), (1, .int k), (2, .int so), (3, .int a), (4, .int b), (5, .long w), (7, va_re ad r1), (8, va_re ad r2)] := by cases r1 <;> cases r2 <;> exact hl
  have inX0 : ∀ w ∈ wsX00, w ∈ wsX0_init := fun w h => List.mem_cons_of_mem _ (List.mem_append_right _ h)
  refine lv_aload_n hx hb dX0_init_0 rfl (lv_at hl 0 rfl) ?_
  refine W.objInit hx hb hown (hts (.methodLink RX0 1 objectInit) (List.mem_of_getElem? (i := 1) rfl)) (hts (.instanceMethod objectInit) (List.mem_of_getElem? (i := 2) rfl)) (hts _ (List.mem_of_getElem? (i := 3) rfl)) rfl (by rw [hml]; exact hl.1) rfl dX0_init_1 (Nat.le_of_ble_eq_true rfl) (Nat.le_of_ble_eq_true rfl) ?_
  refine W.eq (g2 := F0 m 4 ls []) rfl ?_
  refine lv_aload_n hx hb dX0_init_4 rfl (lv_at hl 0 rfl) ?_
  refine lv_iload_n hx hb dX0_init_5 rfl (lv_at hl 1 rfl) ?_
  refine va_putF (ci := 0) (v := .int k) (ty := .int) (C := RX0) (T := TX0) (N := 8) hx hb hts inX0 tyX0 tyX0_ok nmX0 hown hK hP hD hS 0 rfl rfl 0 (by decide) (hts (.fieldLink RX0 7 "MailRoom$Handler" "kind" "I") (List.mem_of_getElem? (i := 4) rfl)) (fun _ h9 => h9) rfl hnm rfl (by decide +kernel) (rfl) (rfl) (Nat.le_of_ble_eq_true rfl) dX0_init_6 (fun H locs hP hD hS => ?_)
  have hP : va_P D vwCl (hW q [.int k, .int 0, .int 0, .int 0, .long 0, .null, .null, .int 0]) H := hP
  have hD : va_D A (hW q [.int k, .int 0, .int 0, .int 0, .long 0, .null, .null, .int 0]) := hD
  refine lv_aload_n hx hb dX0_init_9 rfl (lv_at hl 0 rfl) ?_
  refine lv_iload_n hx hb dX0_init_10 rfl (lv_at hl 2 rfl) ?_
  refine va_putF (ci := 0) (v := .int so) (ty := .int) (C := RX0) (T := TX0) (N := 8) hx hb hts inX0 tyX0 tyX0_ok nmX0 hown hK hP hD hS 0 rfl rfl 1 (by decide) (hts (.fieldLink RX0 13 "MailRoom$Handler" "sort" "I") (List.mem_of_getElem? (i := 5) rfl)) (fun _ h9 => h9) rfl hnm rfl (by decide +kernel) (rfl) (rfl) (Nat.le_of_ble_eq_true rfl) dX0_init_11 (fun H locs hP hD hS => ?_)
  have hP : va_P D vwCl (hW q [.int k, .int so, .int 0, .int 0, .long 0, .null, .null, .int 0]) H := hP
  have hD : va_D A (hW q [.int k, .int so, .int 0, .int 0, .long 0, .null, .null, .int 0]) := hD
  refine lv_aload_n hx hb dX0_init_14 rfl (lv_at hl 0 rfl) ?_
  refine lv_iload_n hx hb dX0_init_15 rfl (lv_at hl 3 rfl) ?_
  refine va_putF (ci := 0) (v := .int a) (ty := .int) (C := RX0) (T := TX0) (N := 8) hx hb hts inX0 tyX0 tyX0_ok nmX0 hown hK hP hD hS 0 rfl rfl 2 (by decide) (hts (.fieldLink RX0 16 "MailRoom$Handler" "a" "I") (List.mem_of_getElem? (i := 6) rfl)) (fun _ h9 => h9) rfl hnm rfl (by decide +kernel) (rfl) (rfl) (Nat.le_of_ble_eq_true rfl) dX0_init_16 (fun H locs hP hD hS => ?_)
  have hP : va_P D vwCl (hW q [.int k, .int so, .int a, .int 0, .long 0, .null, .null, .int 0]) H := hP
  have hD : va_D A (hW q [.int k, .int so, .int a, .int 0, .long 0, .null, .null, .int 0]) := hD
  refine lv_aload_n hx hb dX0_init_19 rfl (lv_at hl 0 rfl) ?_
  refine lv_iload hx hb dX0_init_20 (lv_at hl 4 rfl) ?_
  refine va_putF (ci := 0) (v := .int b) (ty := .int) (C := RX0) (T := TX0) (N := 8) hx hb hts inX0 tyX0 tyX0_ok nmX0 hown hK hP hD hS 0 rfl rfl 3 (by decide) (hts (.fieldLink RX0 19 "MailRoom$Handler" "b" "I") (List.mem_of_getElem? (i := 7) rfl)) (fun _ h9 => h9) rfl hnm rfl (by decide +kernel) (rfl) (rfl) (Nat.le_of_ble_eq_true rfl) dX0_init_22 (fun H locs hP hD hS => ?_)
  have hP : va_P D vwCl (hW q [.int k, .int so, .int a, .int b, .long 0, .null, .null, .int 0]) H := hP
  have hD : va_D A (hW q [.int k, .int so, .int a, .int b, .long 0, .null, .null, .int 0]) := hD
  refine lv_aload_n hx hb dX0_init_25 rfl (lv_at hl 0 rfl) ?_
  refine lv_lload hx hb dX0_init_26 (lv_at hl 5 rfl) ?_
  refine va_putF (ci := 0) (v := .long w) (ty := .long) (C := RX0) (T := TX0) (N := 8) hx hb hts inX0 tyX0 tyX0_ok nmX0 hown hK hP hD hS 0 rfl rfl 4 (by decide) (hts (.fieldLink RX0 22 "MailRoom$Handler" "c" "J") (List.mem_of_getElem? (i := 8) rfl)) (fun _ h9 => h9) rfl hnm rfl (by decide +kernel) (rfl) (rfl) (Nat.le_of_ble_eq_true rfl) dX0_init_28 (fun H locs hP hD hS => ?_)
  have hP : va_P D vwCl (hW q [.int k, .int so, .int a, .int b, .long w, .null, .null, .int 0]) H := hP
  have hD : va_D A (hW q [.int k, .int so, .int a, .int b, .long w, .null, .null, .int 0]) := hD
  refine lv_aload_n hx hb dX0_init_31 rfl (lv_at hl 0 rfl) ?_
  refine z_aload hx hb dX0_init_32 (lv_at hl 6 rfl) ?_
  refine va_putF (ci := 0) (v := va_re ad r1) (ty := .object "MailRoom$Handler") (C := RX0) (T := TX0) (N := 8) hx hb hts inX0 tyX0 tyX0_ok nmX0 hown hK hP hD hS 0 rfl rfl 5 (by decide) (hts (.fieldLink RX0 26 "MailRoom$Handler" "former" "LMailRoom$Handler;") (List.mem_of_getElem? (i := 9) rfl)) (fun _ h9 => h9) rfl hnm rfl (by decide +kernel) (z_nre _) (z_fre _) (Nat.le_of_ble_eq_true rfl) dX0_init_34 (fun H locs hP hD hS => ?_)
  have hP : va_P D vwCl (hW q [.int k, .int so, .int a, .int b, .long w, va_re ad r1, .null, .int 0]) H := hP
  have hD : va_D A (hW q [.int k, .int so, .int a, .int b, .long w, va_re ad r1, .null, .int 0]) := hD
  refine lv_aload_n hx hb dX0_init_37 rfl (lv_at hl 0 rfl) ?_
  refine z_aload hx hb dX0_init_38 (lv_at hl 7 rfl) ?_
  refine va_putF (ci := 0) (v := va_re ad r2) (ty := .object "MailRoom$Handler") (C := RX0) (T := TX0) (N := 8) hx hb hts inX0 tyX0 tyX0_ok nmX0 hown hK hP hD hS 0 rfl rfl 6 (by decide) (hts (.fieldLink RX0 30 "MailRoom$Handler" "other" "LMailRoom$Handler;") (List.mem_of_getElem? (i := 10) rfl)) (fun _ h9 => h9) rfl hnm rfl (by decide +kernel) (z_nre _) (z_fre _) (Nat.le_of_ble_eq_true rfl) dX0_init_40 (fun H locs hP hD hS => ?_)
  have hP : va_P D vwCl (hW q [.int k, .int so, .int a, .int b, .long w, va_re ad r1, va_re ad r2, .int 0]) H := hP
  have hD : va_D A (hW q [.int k, .int so, .int a, .int b, .long w, va_re ad r1, va_re ad r2, .int 0]) := hD
  refine lv_aload_n hx hb dX0_init_43 rfl (lv_at hl 0 rfl) ?_
  refine lv_iconst (v := 0) hx hb dX0_init_44 (by decide) ?_
  refine va_put (ci := 0) (v := .int 0) (ty := .int) (C := RX0) (T := TX0) (N := 8) hx hb hts inX0 tyX0 tyX0_ok nmX0 hown hK hP hD hS 0 rfl rfl 7 (by decide) (hts (.fieldLink RX0 33 "MailRoom$Handler" "begun" "I") (List.mem_of_getElem? (i := 11) rfl)) (fun _ h9 => h9) rfl (by decide +kernel) (rfl) (rfl) (Nat.le_of_ble_eq_true rfl) dX0_init_45 (fun H locs hP hD hS => ?_)
  have hP : va_P D vwCl (hW q [.int k, .int so, .int a, .int b, .long w, va_re ad r1, va_re ad r2, .int 0]) H := hP
  have hD : va_D A (hW q [.int k, .int so, .int a, .int b, .long w, va_re ad r1, va_re ad r2, .int 0]) := hD
  exact z_retv hx hb hr hlocks hK hP hD hS rfl dX0_init_48
noncomputable def xf_handleT (k so a b : Int32) (w : Int64) (r2 : Option Nat) (σ : SX) : Int32 × SX := (if x_hd σ k.toNatClampNeg = none then 0 else 1, xs_told (xs_hd (xs_n (xs_tab σ (va_up (x_tab σ) (x_n σ) (k, so, a, b, w, x_hd σ k.toNatClampNeg, r2, 0))) (x_n σ + 1)) (va_up (x_hd σ) k.toNatClampNeg (some (x_n σ)))) (x_told σ + 1))
set_option maxRecDepth 100000 in
set_option maxHeartbeats 4000000 in
theorem cx_handleT {ad : Nat → Nat} {p : Program} {l : Launch} {e : Env} {s : State} {m : MethodId} {args : Array Value} {below : List Frame} {meth : Method} {c : Code} {A : Nat → Prop} {D : va_G} {O : Nat → Nat} {K : Nat → ClassId} (XX : CallFix p m c cX1_handle 9 s args wsX1_handle RX1) (hr : meth.sig.returnType = some .int) (hlocks : meth.locks = false) (hA : ∀ q : Nat, s.heap.size ≤ q → A q) (hK : va_K D vwCl (xT K) s) (k so a b : Int32) (w : Int64) (r2 : Option Nat) (σ : SX) (hok : xok σ) (h2 : okr (x_n σ) r2) (hk : vp_in k 10) : ∀ (H : Heap) (locs : List Loc) (ls : Array Slot), va_P D vwCl (xW O K ad σ) H → va_D A (xW O K ad σ) → va_S A s.heap H locs → lv_has ls 9 [(0, .ref (O 0)), (1, .int k), (2, .int so), (3, .int a), (4, .int b), (5, .long w), (7, va_re ad (x_hd σ k.toNatClampNeg)), (8, va_re ad r2)] → W p l e { frames := 3, cells := 1, slots := 8, locals := 300 } s m args below meth c H locs 0 0 (MQ below (va_Qi (fun (r9 : Int32) (u9 : SX × (Nat → Nat)) => r9 = (xf_handleT k so a b w r2 σ).1 ∧ u9.1 = (xf_handleT k so a b w r2 σ).2) (zB D (xT K) (fun u9 : SX × (Nat → Nat) => xW O K u9.2 u9.1) A) A) args s 1 8 A) (F0 m 101 ls [.int k, .ref (O 3)]) := by
  obtain ⟨hx, hb, hml, hown, hts⟩ := id XX
  have inW : ∀ w ∈ wsX10, w ∈ wsX1_handle := fun w h => List.mem_cons_of_mem _ (List.mem_append_left _ (List.mem_append_right _ h))
  have inX0 : ∀ w ∈ wsX00, w ∈ wsX1_handle := fun w h => List.mem_cons_of_mem _ (List.mem_append_right _ h)
  intro H locs ls hP hD hS hl
  refine va_new (ci := 0) (fs := hF0) (C := RX0) (T := TX0) (N := 8) hx hb hts inX0 tyX0 tyX0_ok hown (hts (.classLink RX1 17 RX0) (List.mem_of_getElem? (i := 3) rfl)) (hts (.instantiable RX0 8) (List.mem_of_getElem? (i := 4) rfl)) (hts (.initialized RX0) (List.mem_of_getElem? (i := 5) rfl)) hK hP hD hS hA rfl (fun j hj => by rcases (show j = 0 ∨ j = 1 ∨ j = 2 ∨ j = 3 ∨ j = 4 ∨ j = 5 ∨ j = 6 ∨ j = 7 by omega) with rfl | rfl | rfl | rfl | rfl | rfl | rfl | rfl <;> rfl) (Nat.le_of_ble_eq_true rfl) (Nat.le_of_ble_eq_true rfl) dX1_handle_101 (fun q H hP hD hS => ?_)
  refine lv_dup hx hb dX1_handle_104 rfl ?_
  refine lv_iload_n hx hb dX1_handle_105 rfl (lv_at hl 1 rfl) ?_
  refine lv_iload_n hx hb dX1_handle_106 rfl (lv_at hl 2 rfl) ?_
  refine lv_iload_n hx hb dX1_handle_107 rfl (lv_at hl 3 rfl) ?_
  refine lv_iload hx hb dX1_handle_108 (lv_at hl 4 rfl) ?_
  refine lv_lload hx hb dX1_handle_110 (lv_at hl 5 rfl) ?_
  refine z_aload hx hb dX1_handle_112 (lv_at hl 6 rfl) ?_
  refine z_aload hx hb dX1_handle_114 (lv_at hl 7 rfl) ?_
  have hP1 : va_P D vwCl (hW q hF0) H := zP_r hP
  have hD1 : va_D A (hW q hF0) := zD_r hD
  have hFc : ∀ z, va_A (hW q hF0) H.size z → A z := z_fc (wf := hW q) (σ := hF0) hD1 hS hA
  have hK0 : va_K D vwCl [] s := hK.sub (tys' := []) [] rfl
  refine va_callv (va_runI (As := [.int k, .int so, .int a, .int b, .long w, va_re ad (x_hd σ k.toNatClampNeg), va_re ad r2]) (rest := [.ref q, .int k, .ref (O 3)]) XX (cx_hinit l D ad q k so a b w (x_hd σ k.toNatClampNeg) r2 H.size) (cwI 7 hts gX1_handle_X0_init rfl rfl rfl (hts (.initialized RX0) (List.mem_of_getElem? (i := 5) rfl)) (hts (.methodLink RX1 38 yX0_init) (List.mem_of_getElem? (i := 20) rfl)) (hts (.instanceMethod yX0_init) (List.mem_of_getElem? (i := 21) rfl)) rfl (by decide +kernel) ⟨by decide, by decide⟩) ⟨z_blind, fun U hU hW => ⟨rfl, by rw [hU], by rw [hU]; exact hP1, va_K.moved hW.alike hK0, hD1.weaken (fun _ _ _ _ => trivial)⟩⟩ rfl rfl hl.1 rfl (lv_room (Nat.le_of_ble_eq_true rfl)) dX1_handle_116 ⟨by decide, by decide⟩) hS (fun z _ h => hFc z h) hFc (fun u t H1 locs ht hvm hw hB hz1 hk1 hS => ?_)
  subst hw
  obtain ⟨hP2, hK2, hD2⟩ := hB
  rw [ht] at hP2
  obtain ⟨hP, hD⟩ := z_fr hP hD hk1 hFc hP2 hD2
  have e1 := xW_push (O := O) (K := K) (ad := ad) (σ := σ) (q := q) (h := (k, so, a, b, w, x_hd σ k.toNatClampNeg, r2, 0)) hok (hok.1 _) h2
  have hP : va_P D vwCl (xW O K ad σ ++ [(q, .inr (0, hFs ad (k, so, a, b, w, x_hd σ k.toNatClampNeg, r2, 0)))]) H1 := hP
  have hD : va_D A (xW O K ad σ ++ [(q, .inr (0, hFs ad (k, so, a, b, w, x_hd σ k.toNatClampNeg, r2, 0)))]) := hD
  rw [e1] at hP hD
  have e2 : va_re (va_up ad (x_n σ) q) (some (x_n σ)) = .ref q := by
    show Value.ref (va_up ad (x_n σ) q (x_n σ)) = .ref q
    rw [va_up_self]
  rw [← e2]
  refine x_astH (ad := va_up ad (x_n σ) q) (r := some (x_n σ)) (i := k) hx hb hK hP hD hS (fun j hj => by cases hj; rw [xw_n]; omega) hk dX1_handle_119 (fun H locs hP hD hS => ?_)
  have e3 : x_hd (xs_n (xs_tab σ (va_up (x_tab σ) (x_n σ) (k, so, a, b, w, x_hd σ k.toNatClampNeg, r2, 0))) (x_n σ + 1)) = x_hd σ := (xr_hd_n _ _).trans (xr_hd_tab _ _)
  rw [e3] at hP hD
  refine lv_aload_n hx hb dX1_handle_120 rfl (lv_at hl 0 rfl) ?_
  refine lv_dup hx hb dX1_handle_121 rfl ?_
  refine x_gi_told (v := x_told σ) hx hb hts inW hown hK hP ((xr_told_hd _ _).trans ((xr_told_n _ _).trans (xr_told_tab _ _))) (hts (.fieldLink RX1 51 "MailRoom" "told" "I") (List.mem_of_getElem? (i := 1) rfl)) dX1_handle_122 ?_
  refine lv_iconst (v := 1) hx hb dX1_handle_125 (by decide) ?_
  refine lv_iadd hx hb dX1_handle_126 ?_
  refine x_pi_told hx hb hts inW hown hK hP hD hS (hts (.fieldLink RX1 51 "MailRoom" "told" "I") (List.mem_of_getElem? (i := 1) rfl)) dX1_handle_127 (fun H locs hP hD hS => ?_)
  refine z_aload hx hb dX1_handle_130 (lv_at hl 6 rfl) ?_
  refine z_ifnull (tgt := 139) hx hb dX1_handle_132 (by decide) (fun c132 => ?_) (fun c132 => ?_)
  · refine lv_iconst (v := 0) hx hb dX1_handle_139 (by decide) ?_
    exact z_reti2 (wf := fun u9 : SX × (Nat → Nat) => xW O K u9.2 u9.1) (u := (xs_told (xs_hd (xs_n (xs_tab σ (va_up (x_tab σ) (x_n σ) (k, so, a, b, w, x_hd σ k.toNatClampNeg, r2, 0))) (x_n σ + 1)) (va_up (x_hd σ) k.toNatClampNeg (some (x_n σ)))) (x_told σ + 1), va_up ad (x_n σ) q)) hx hb hr hlocks hK hP hD hS ⟨(if_pos c132).symm, rfl⟩ dX1_handle_140
  · refine lv_iconst (v := 1) hx hb dX1_handle_135 (by decide) ?_
    refine lv_goto (tgt := 140) hx hb dX1_handle_136 (by decide) ?_
    exact z_reti2 (wf := fun u9 : SX × (Nat → Nat) => xW O K u9.2 u9.1) (u := (xs_told (xs_hd (xs_n (xs_tab σ (va_up (x_tab σ) (x_n σ) (k, so, a, b, w, x_hd σ k.toNatClampNeg, r2, 0))) (x_n σ + 1)) (va_up (x_hd σ) k.toNatClampNeg (some (x_n σ)))) (x_told σ + 1), va_up ad (x_n σ) q)) hx hb hr hlocks hK hP hD hS ⟨(if_neg c132).symm, rfl⟩ dX1_handle_140
