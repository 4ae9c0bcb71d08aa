theorem z_cat (ad : Nat → Nat) (r : Option Nat) : (va_re ad r).category = 1 := by
  cases r <;> rfl
noncomputable def xf_handle  (k : Int32) (so : Int32) (a : Int32) (b : Int32) (w : Int64) (σ : SX) : Int32 × SX := if so < 0 then ((-3), σ) else (if so ≤ 11 then (if (xf_isKind k) = 0 then ((-2), σ) else (if (xf_namesKnown so a b) = 0 then ((-2), σ) else (if so = 5 then (if b < 0 then ((-3), σ) else (if b ≤ 100 then (if (x_told σ) < 200 then (if so = 2 then (xf_handleT k so a b w (xf_handlerOf a σ) σ) else (if so = 7 then (xf_handleT k so a b w (xf_handlerOf a σ) σ) else (xf_handleT k so a b w none σ))) else ((-4), σ)) else ((-3), σ))) else (if (x_told σ) < 200 then (if so = 2 then (xf_handleT k so a b w (xf_handlerOf a σ) σ) else (if so = 7 then (xf_handleT k so a b w (xf_handlerOf a σ) σ) else (xf_handleT k so a b w none σ))) else ((-4), σ))))) else ((-3), σ))
set_option maxRecDepth 100000 in
set_option maxHeartbeats 4000000 in
theorem cx_handle (l : Launch) (D : va_G) (O : Nat → Nat) (K : Nat → ClassId) (ad : Nat → Nat) (k so a b : Int32) (w : Int64) (σ : SX) (hok : xok σ) (sz : Nat) : Met l yX1_handle wsX1_handle { frames := 3, cells := 1, slots := 8, locals := 300 } (zP D (xT K) [.ref (O 0), .int k, .int so, .int a, .int b, .long w] (xW O K ad σ) sz) (va_Qi (fun (r9 : Int32) (u9 : SX × (Nat → Nat)) => r9 = (xf_handle k so a b w σ).1 ∧ u9.1 = (xf_handle k so a b w σ).2) (zB D (xT K) (fun u9 : SX × (Nat → Nat) => xW O K u9.2 u9.1) (va_A (xW O K ad σ) sz)) (va_A (xW O K ad σ) sz)) 1 8 (va_A (xW O K ad σ) sz) := by
  refine z_start (cc := cX1_handle) (maxL := 9) (ret := (some .int)) (Qc := fun A => va_Qi (fun (r9 : Int32) (u9 : SX × (Nat → Nat)) => r9 = (xf_handle k so a b w σ).1 ∧ u9.1 = (xf_handle k so a b w σ).2) (zB D (xT K) (fun u9 : SX × (Nat → Nat) => xW O K u9.2 u9.1) A) A) sz (by decide) rfl (Nat.le_of_ble_eq_true rfl) ?_
  intro p e s m below meth c A X hA hK hP hD hS ls hl
  obtain ⟨hx, hb, hr, hml, hts, hown, hlocks, hnm⟩ := X
  have hown : s.vm.findClass RX1 = some m.cls := hown
  have hl : lv_has ls 9 [(0, .ref (O 0)), (1, .int k), (2, .int so), (3, .int a), (4, .int b), (5, .long w)] := hl
  have inW : ∀ w ∈ wsX10, w ∈ wsX1_handle := fun w h => List.mem_cons_of_mem _ (List.mem_append_left _ (List.mem_append_right _ h))
  have inX0 : ∀ w ∈ wsX00, w ∈ wsX1_handle := fun w h => List.mem_cons_of_mem _ (List.mem_append_right _ h)
  have XX : CallFix p m c cX1_handle 9 s _ wsX1_handle RX1 := ⟨hx, hb, hml, hown, hts⟩
  have k51 := hts (.fieldLink RX1 51 "MailRoom" "told" "I") (List.mem_of_getElem? (i := 1) rfl)
  have k19 := hts (.fieldLink RX1 19 "MailRoom" "handlers" "[LMailRoom$Handler;") (List.mem_of_getElem? (i := 2) rfl)
  refine lv_iload_n hx hb dX1_handle_0 rfl (lv_at hl 2 rfl) ?_
  refine lv_if_lt (tgt := 10) hx hb dX1_handle_1 (by decide) (fun c1 => ?_) (fun c1 => ?_)
  · refine lv_bipush (v := (-3)) hx hb dX1_handle_10 (by decide) ?_
    have e9 : xf_handle k so a b w σ = ((-3), σ) := (if_pos c1).trans (rfl)
    refine W.widen (k := 1) (n := 8) (by omega) (by omega) ?_
    exact z_reti2 (wf := fun u9 : SX × (Nat → Nat) => xW O K u9.2 u9.1) (u := (σ, ad)) hx hb hr hlocks hK hP hD hS ⟨(congrArg Prod.fst e9).symm, (congrArg Prod.snd e9).symm⟩ dX1_handle_12
  · refine lv_iload_n hx hb dX1_handle_4 rfl (lv_at hl 2 rfl) ?_
    refine lv_bipush (v := 11) hx hb dX1_handle_5 (by decide) ?_
    refine lv_icmp_le (tgt := 13) hx hb dX1_handle_7 (by decide) (fun c7 => ?_) (fun c7 => ?_)
    · refine lv_iload_n hx hb dX1_handle_13 rfl (lv_at hl 1 rfl) ?_
      refine z_calls (As := [.int k]) (rest := []) XX (cx_isKind l k) (va_cwS 1 hts gX1_handle_X1_isKind rfl rfl rfl qX1_isKind ⟨by decide, by decide⟩) rfl hl.1 rfl (Nat.le_of_ble_eq_true rfl) dX1_handle_14 ⟨Nat.zero_le _, Nat.zero_le _⟩ ?_
      refine lv_if_eq (tgt := 30) hx hb dX1_handle_17 (by decide) (fun c17 => ?_) (fun c17 => ?_)
      · refine lv_bipush (v := (-2)) hx hb dX1_handle_30 (by decide) ?_
        have e9 : xf_handle k so a b w σ = ((-2), σ) := (if_neg c1).trans ((if_pos c7).trans ((if_pos c17).trans (rfl)))
        refine W.widen (k := 1) (n := 8) (by omega) (by omega) ?_
        exact z_reti2 (wf := fun u9 : SX × (Nat → Nat) => xW O K u9.2 u9.1) (u := (σ, ad)) hx hb hr hlocks hK hP hD hS ⟨(congrArg Prod.fst e9).symm, (congrArg Prod.snd e9).symm⟩ dX1_handle_32
      · refine lv_iload_n hx hb dX1_handle_20 rfl (lv_at hl 2 rfl) ?_
        refine lv_iload_n hx hb dX1_handle_21 rfl (lv_at hl 3 rfl) ?_
        refine lv_iload hx hb dX1_handle_22 (lv_at hl 4 rfl) ?_
        refine z_calls (As := [.int so, .int a, .int b]) (rest := []) XX (cx_namesKnown l so a b) (va_cwS 3 hts gX1_handle_X1_namesKnown rfl rfl rfl qX1_namesKnown ⟨by decide, by decide⟩) rfl hl.1 rfl (Nat.le_of_ble_eq_true rfl) dX1_handle_24 ⟨Nat.zero_le _, Nat.zero_le _⟩ ?_
        refine lv_if_ne (tgt := 33) hx hb dX1_handle_27 (by decide) (fun c27 => ?_) (fun c27 => ?_)
        · refine lv_iload_n hx hb dX1_handle_33 rfl (lv_at hl 2 rfl) ?_
          refine lv_iconst (v := 5) hx hb dX1_handle_34 (by decide) ?_
          refine lv_icmp_ne (tgt := 53) hx hb dX1_handle_35 (by decide) (fun c35 => ?_) (fun c35 => ?_)
          · refine lv_aload_n hx hb dX1_handle_53 rfl (lv_at hl 0 rfl) ?_
            refine x_gi_told (v := (x_told σ)) hx hb hts inW hown hK hP (rfl) k51 dX1_handle_54 ?_
            refine lv_sipush (v := 200) hx hb dX1_handle_57 (by decide) ?_
            refine lv_icmp_lt (tgt := 66) hx hb dX1_handle_60 (by decide) (fun c60 => ?_) (fun c60 => ?_)
            · refine lv_aload_n hx hb dX1_handle_66 rfl (lv_at hl 0 rfl) ?_
              refine x_ga_3 hx hb hts inW hown hK hP k19 dX1_handle_67 ?_
              refine lv_iload_n hx hb dX1_handle_70 rfl (lv_at hl 1 rfl) ?_
              refine x_aldH hx hb hK hP (i := k) (xkind_in (by assumption)) dX1_handle_71 ?_
              refine z_astore (lv' := [(7, va_re ad ((x_hd σ) k.toNatClampNeg)), (0, .ref (O 0)), (1, .int k), (2, .int so), (3, .int a), (4, .int b), (5, .long w)]) hx hb dX1_handle_72 hl (by decide) (rfl) (fun ls hl => ?_)
              refine lv_iload_n hx hb dX1_handle_74 rfl (lv_at hl 3 rfl) ?_
              refine lv_iconst (v := 2) hx hb dX1_handle_75 (by decide) ?_
              refine lv_icmp_eq (tgt := 85) hx hb dX1_handle_76 (by decide) (fun c76 => ?_) (fun c76 => ?_)
              · refine lv_aload_n hx hb dX1_handle_85 rfl (lv_at hl 1 rfl) ?_
                refine lv_iload_n hx hb dX1_handle_86 rfl (lv_at hl 4 rfl) ?_
                refine z_callq (As := [.int a]) (rest := []) XX (cx_handlerOf l D O K ad a σ) (cwV 1 hts gX1_handle_X1_handlerOf rfl rfl rfl qX1_handlerOf ⟨by decide, by decide⟩) (va_recv hK hP (ci := 1) (q0 := 0) rfl rfl) hK hP hD hS hA rfl hl.1 rfl (Nat.le_of_ble_eq_true rfl) dX1_handle_87 ⟨Nat.zero_le _, Nat.zero_le _⟩ (fun H locs hP hD hS => ?_)
                refine lv_goto (tgt := 94) hx hb dX1_handle_90 (by decide) ?_
                refine z_astore (lv' := [(8, va_re ad (xf_handlerOf a σ)), (7, va_re ad ((x_hd σ) k.toNatClampNeg)), (0, .ref (O 0)), (1, .int k), (2, .int so), (3, .int a), (4, .int b), (5, .long w)]) hx hb dX1_handle_94 hl (by decide) (by simp [List.filter, z_cat]) (fun ls hl => ?_)
                refine lv_aload_n hx hb dX1_handle_96 rfl (lv_at hl 2 rfl) ?_
                refine x_ga_3 hx hb hts inW hown hK hP k19 dX1_handle_97 ?_
                refine lv_iload_n hx hb dX1_handle_100 rfl (lv_at hl 3 rfl) ?_
                have e9 : xf_handle k so a b w σ = (xf_handleT k so a b w (xf_handlerOf a σ) σ) := (if_neg c1).trans ((if_pos c7).trans ((if_neg c17).trans ((if_neg c27).trans ((if_neg c35).trans ((if_pos c60).trans ((if_pos c76).trans (rfl)))))))
                rw [e9]
                exact cx_handleT XX hr hlocks hA hK k so a b w (xf_handlerOf a σ) σ hok (xokr_handlerOf hok) (xkind_in c17) _ _ ls hP hD hS (lv_sub hl [2, 3, 4, 5, 6, 7, 1, 0] rfl)
              · refine lv_iload_n hx hb dX1_handle_79 rfl (lv_at hl 3 rfl) ?_
                refine lv_bipush (v := 7) hx hb dX1_handle_80 (by decide) ?_
                refine lv_icmp_ne (tgt := 93) hx hb dX1_handle_82 (by decide) (fun c82 => ?_) (fun c82 => ?_)
                · refine z_null ad hx hb dX1_handle_93 ?_
                  refine z_astore (lv' := [(8, va_re ad none), (7, va_re ad ((x_hd σ) k.toNatClampNeg)), (0, .ref (O 0)), (1, .int k), (2, .int so), (3, .int a), (4, .int b), (5, .long w)]) hx hb dX1_handle_94 hl (by decide) (by simp [List.filter, z_cat]) (fun ls hl => ?_)
                  refine lv_aload_n hx hb dX1_handle_96 rfl (lv_at hl 2 rfl) ?_
                  refine x_ga_3 hx hb hts inW hown hK hP k19 dX1_handle_97 ?_
                  refine lv_iload_n hx hb dX1_handle_100 rfl (lv_at hl 3 rfl) ?_
                  have e9 : xf_handle k so a b w σ = (xf_handleT k so a b w none σ) := (if_neg c1).trans ((if_pos c7).trans ((if_neg c17).trans ((if_neg c27).trans ((if_neg c35).trans ((if_pos c60).trans ((if_neg c76).trans ((if_neg c82).trans (rfl))))))))
                  rw [e9]
                  exact cx_handleT XX hr hlocks hA hK k so a b w none σ hok (fun j h => by cases h) (xkind_in c17) _ _ ls hP hD hS (lv_sub hl [2, 3, 4, 5, 6, 7, 1, 0] rfl)
                · refine lv_aload_n hx hb dX1_handle_85 rfl (lv_at hl 1 rfl) ?_
                  refine lv_iload_n hx hb dX1_handle_86 rfl (lv_at hl 4 rfl) ?_
                  refine z_callq (As := [.int a]) (rest := []) XX (cx_handlerOf l D O K ad a σ) (cwV 1 hts gX1_handle_X1_handlerOf rfl rfl rfl qX1_handlerOf ⟨by decide, by decide⟩) (va_recv hK hP (ci := 1) (q0 := 0) rfl rfl) hK hP hD hS hA rfl hl.1 rfl (Nat.le_of_ble_eq_true rfl) dX1_handle_87 ⟨Nat.zero_le _, Nat.zero_le _⟩ (fun H locs hP hD hS => ?_)
                  refine lv_goto (tgt := 94) hx hb dX1_handle_90 (by decide) ?_
                  refine z_astore (lv' := [(8, va_re ad (xf_handlerOf a σ)), (7, va_re ad ((x_hd σ) k.toNatClampNeg)), (0, .ref (O 0)), (1, .int k), (2, .int so), (3, .int a), (4, .int b), (5, .long w)]) hx hb dX1_handle_94 hl (by decide) (by simp [List.filter, z_cat]) (fun ls hl => ?_)
                  refine lv_aload_n hx hb dX1_handle_96 rfl (lv_at hl 2 rfl) ?_
                  refine x_ga_3 hx hb hts inW hown hK hP k19 dX1_handle_97 ?_
                  refine lv_iload_n hx hb dX1_handle_100 rfl (lv_at hl 3 rfl) ?_
                  have e9 : xf_handle k so a b w σ = (xf_handleT k so a b w (xf_handlerOf a σ) σ) := (if_neg c1).trans ((if_pos c7).trans ((if_neg c17).trans ((if_neg c27).trans ((if_neg c35).trans ((if_pos c60).trans ((if_neg c76).trans ((if_pos c82).trans (rfl))))))))
                  rw [e9]
                  exact cx_handleT XX hr hlocks hA hK k so a b w (xf_handlerOf a σ) σ hok (xokr_handlerOf hok) (xkind_in c17) _ _ ls hP hD hS (lv_sub hl [2, 3, 4, 5, 6, 7, 1, 0] rfl)
            · refine lv_bipush (v := (-4)) hx hb dX1_handle_63 (by decide) ?_
              have e9 : xf_handle k so a b w σ = ((-4), σ) := (if_neg c1).trans ((if_pos c7).trans ((if_neg c17).trans ((if_neg c27).trans ((if_neg c35).trans ((if_neg c60).trans (rfl))))))
              refine W.widen (k := 1) (n := 8) (by omega) (by omega) ?_
              exact z_reti2 (wf := fun u9 : SX × (Nat → Nat) => xW O K u9.2 u9.1) (u := (σ, ad)) hx hb hr hlocks hK hP hD hS ⟨(congrArg Prod.fst e9).symm, (congrArg Prod.snd e9).symm⟩ dX1_handle_65
          · refine lv_iload hx hb dX1_handle_38 (lv_at hl 4 rfl) ?_
            refine lv_if_lt (tgt := 50) hx hb dX1_handle_40 (by decide) (fun c40 => ?_) (fun c40 => ?_)
            · refine lv_bipush (v := (-3)) hx hb dX1_handle_50 (by decide) ?_
              have e9 : xf_handle k so a b w σ = ((-3), σ) := (if_neg c1).trans ((if_pos c7).trans ((if_neg c17).trans ((if_neg c27).trans ((if_pos c35).trans ((if_pos c40).trans (rfl))))))
              refine W.widen (k := 1) (n := 8) (by omega) (by omega) ?_
              exact z_reti2 (wf := fun u9 : SX × (Nat → Nat) => xW O K u9.2 u9.1) (u := (σ, ad)) hx hb hr hlocks hK hP hD hS ⟨(congrArg Prod.fst e9).symm, (congrArg Prod.snd e9).symm⟩ dX1_handle_52
            · refine lv_iload hx hb dX1_handle_43 (lv_at hl 4 rfl) ?_
              refine lv_bipush (v := 100) hx hb dX1_handle_45 (by decide) ?_
              refine lv_icmp_le (tgt := 53) hx hb dX1_handle_47 (by decide) (fun c47 => ?_) (fun c47 => ?_)
              · refine lv_aload_n hx hb dX1_handle_53 rfl (lv_at hl 0 rfl) ?_
                refine x_gi_told (v := (x_told σ)) hx hb hts inW hown hK hP (rfl) k51 dX1_handle_54 ?_
                refine lv_sipush (v := 200) hx hb dX1_handle_57 (by decide) ?_
                refine lv_icmp_lt (tgt := 66) hx hb dX1_handle_60 (by decide) (fun c60 => ?_) (fun c60 => ?_)
                · refine lv_aload_n hx hb dX1_handle_66 rfl (lv_at hl 0 rfl) ?_
                  refine x_ga_3 hx hb hts inW hown hK hP k19 dX1_handle_67 ?_
                  refine lv_iload_n hx hb dX1_handle_70 rfl (lv_at hl 1 rfl) ?_
                  refine x_aldH hx hb hK hP (i := k) (xkind_in (by assumption)) dX1_handle_71 ?_
                  refine z_astore (lv' := [(7, va_re ad ((x_hd σ) k.toNatClampNeg)), (0, .ref (O 0)), (1, .int k), (2, .int so), (3, .int a), (4, .int b), (5, .long w)]) hx hb dX1_handle_72 hl (by decide) (rfl) (fun ls hl => ?_)
                  refine lv_iload_n hx hb dX1_handle_74 rfl (lv_at hl 3 rfl) ?_
                  refine lv_iconst (v := 2) hx hb dX1_handle_75 (by decide) ?_
                  refine lv_icmp_eq (tgt := 85) hx hb dX1_handle_76 (by decide) (fun c76 => ?_) (fun c76 => ?_)
                  · refine lv_aload_n hx hb dX1_handle_85 rfl (lv_at hl 1 rfl) ?_
                    refine lv_iload_n hx hb dX1_handle_86 rfl (lv_at hl 4 rfl) ?_
                    refine z_callq (As := [.int a]) (rest := []) XX (cx_handlerOf l D O K ad a σ) (cwV 1 hts gX1_handle_X1_handlerOf rfl rfl rfl qX1_handlerOf ⟨by decide, by decide⟩) (va_recv hK hP (ci := 1) (q0 := 0) rfl rfl) hK hP hD hS hA rfl hl.1 rfl (Nat.le_of_ble_eq_true rfl) dX1_handle_87 ⟨Nat.zero_le _, Nat.zero_le _⟩ (fun H locs hP hD hS => ?_)
                    refine lv_goto (tgt := 94) hx hb dX1_handle_90 (by decide) ?_
                    refine z_astore (lv' := [(8, va_re ad (xf_handlerOf a σ)), (7, va_re ad ((x_hd σ) k.toNatClampNeg)), (0, .ref (O 0)), (1, .int k), (2, .int so), (3, .int a), (4, .int b), (5, .long w)]) hx hb dX1_handle_94 hl (by decide) (by simp [List.filter, z_cat]) (fun ls hl => ?_)
                    refine lv_aload_n hx hb dX1_handle_96 rfl (lv_at hl 2 rfl) ?_
                    refine x_ga_3 hx hb hts inW hown hK hP k19 dX1_handle_97 ?_
                    refine lv_iload_n hx hb dX1_handle_100 rfl (lv_at hl 3 rfl) ?_
                    have e9 : xf_handle k so a b w σ = (xf_handleT k so a b w (xf_handlerOf a σ) σ) := (if_neg c1).trans ((if_pos c7).trans ((if_neg c17).trans ((if_neg c27).trans ((if_pos c35).trans ((if_neg c40).trans ((if_pos c47).trans ((if_pos c60).trans ((if_pos c76).trans (rfl)))))))))
                    rw [e9]
                    exact cx_handleT XX hr hlocks hA hK k so a b w (xf_handlerOf a σ) σ hok (xokr_handlerOf hok) (xkind_in c17) _ _ ls hP hD hS (lv_sub hl [2, 3, 4, 5, 6, 7, 1, 0] rfl)
                  · refine lv_iload_n hx hb dX1_handle_79 rfl (lv_at hl 3 rfl) ?_
                    refine lv_bipush (v := 7) hx hb dX1_handle_80 (by decide) ?_
                    refine lv_icmp_ne (tgt := 93) hx hb dX1_handle_82 (by decide) (fun c82 => ?_) (fun c82 => ?_)
                    · refine z_null ad hx hb dX1_handle_93 ?_
                      refine z_astore (lv' := [(8, va_re ad none), (7, va_re ad ((x_hd σ) k.toNatClampNeg)), (0, .ref (O 0)), (1, .int k), (2, .int so), (3, .int a), (4, .int b), (5, .long w)]) hx hb dX1_handle_94 hl (by decide) (by simp [List.filter, z_cat]) (fun ls hl => ?_)
                      refine lv_aload_n hx hb dX1_handle_96 rfl (lv_at hl 2 rfl) ?_
                      refine x_ga_3 hx hb hts inW hown hK hP k19 dX1_handle_97 ?_
                      refine lv_iload_n hx hb dX1_handle_100 rfl (lv_at hl 3 rfl) ?_
                      have e9 : xf_handle k so a b w σ = (xf_handleT k so a b w none σ) := (if_neg c1).trans ((if_pos c7).trans ((if_neg c17).trans ((if_neg c27).trans ((if_pos c35).trans ((if_neg c40).trans ((if_pos c47).trans ((if_pos c60).trans ((if_neg c76).trans ((if_neg c82).trans (rfl))))))))))
                      rw [e9]
                      exact cx_handleT XX hr hlocks hA hK k so a b w none σ hok (fun j h => by cases h) (xkind_in c17) _ _ ls hP hD hS (lv_sub hl [2, 3, 4, 5, 6, 7, 1, 0] rfl)
                    · refine lv_aload_n hx hb dX1_handle_85 rfl (lv_at hl 1 rfl) ?_
                      refine lv_iload_n hx hb dX1_handle_86 rfl (lv_at hl 4 rfl) ?_
                      refine z_callq (As := [.int a]) (rest := []) XX (cx_handlerOf l D O K ad a σ) (cwV 1 hts gX1_handle_X1_handlerOf rfl rfl rfl qX1_handlerOf ⟨by decide, by decide⟩) (va_recv hK hP (ci := 1) (q0 := 0) rfl rfl) hK hP hD hS hA rfl hl.1 rfl (Nat.le_of_ble_eq_true rfl) dX1_handle_87 ⟨Nat.zero_le _, Nat.zero_le _⟩ (fun H locs hP hD hS => ?_)
                      refine lv_goto (tgt := 94) hx hb dX1_handle_90 (by decide) ?_
                      refine z_astore (lv' := [(8, va_re ad (xf_handlerOf a σ)), (7, va_re ad ((x_hd σ) k.toNatClampNeg)), (0, .ref (O 0)), (1, .int k), (2, .int so), (3, .int a), (4, .int b), (5, .long w)]) hx hb dX1_handle_94 hl (by decide) (by simp [List.filter, z_cat]) (fun ls hl => ?_)
                      refine lv_aload_n hx hb dX1_handle_96 rfl (lv_at hl 2 rfl) ?_
                      refine x_ga_3 hx hb hts inW hown hK hP k19 dX1_handle_97 ?_
                      refine lv_iload_n hx hb dX1_handle_100 rfl (lv_at hl 3 rfl) ?_
                      have e9 : xf_handle k so a b w σ = (xf_handleT k so a b w (xf_handlerOf a σ) σ) := (if_neg c1).trans ((if_pos c7).trans ((if_neg c17).trans ((if_neg c27).trans ((if_pos c35).trans ((if_neg c40).trans ((if_pos c47).trans ((if_pos c60).trans ((if_neg c76).trans ((if_pos c82).trans (rfl))))))))))
                      rw [e9]
                      exact cx_handleT XX hr hlocks hA hK k so a b w (xf_handlerOf a σ) σ hok (xokr_handlerOf hok) (xkind_in c17) _ _ ls hP hD hS (lv_sub hl [2, 3, 4, 5, 6, 7, 1, 0] rfl)
                · refine lv_bipush (v := (-4)) hx hb dX1_handle_63 (by decide) ?_
                  have e9 : xf_handle k so a b w σ = ((-4), σ) := (if_neg c1).trans ((if_pos c7).trans ((if_neg c17).trans ((if_neg c27).trans ((if_pos c35).trans ((if_neg c40).trans ((if_pos c47).trans ((if_neg c60).trans (rfl))))))))
                  refine W.widen (k := 1) (n := 8) (by omega) (by omega) ?_
                  exact z_reti2 (wf := fun u9 : SX × (Nat → Nat) => xW O K u9.2 u9.1) (u := (σ, ad)) hx hb hr hlocks hK hP hD hS ⟨(congrArg Prod.fst e9).symm, (congrArg Prod.snd e9).symm⟩ dX1_handle_65
              · refine lv_bipush (v := (-3)) hx hb dX1_handle_50 (by decide) ?_
                have e9 : xf_handle k so a b w σ = ((-3), σ) := (if_neg c1).trans ((if_pos c7).trans ((if_neg c17).trans ((if_neg c27).trans ((if_pos c35).trans ((if_neg c40).trans ((if_neg c47).trans (rfl)))))))
                refine W.widen (k := 1) (n := 8) (by omega) (by omega) ?_
                exact z_reti2 (wf := fun u9 : SX × (Nat → Nat) => xW O K u9.2 u9.1) (u := (σ, ad)) hx hb hr hlocks hK hP hD hS ⟨(congrArg Prod.fst e9).symm, (congrArg Prod.snd e9).symm⟩ dX1_handle_52
        · refine lv_bipush (v := (-2)) hx hb dX1_handle_30 (by decide) ?_
          have e9 : xf_handle k so a b w σ = ((-2), σ) := (if_neg c1).trans ((if_pos c7).trans ((if_neg c17).trans ((if_pos c27).trans (rfl))))
          refine W.widen (k := 1) (n := 8) (by omega) (by omega) ?_
          exact z_reti2 (wf := fun u9 : SX × (Nat → Nat) => xW O K u9.2 u9.1) (u := (σ, ad)) hx hb hr hlocks hK hP hD hS ⟨(congrArg Prod.fst e9).symm, (congrArg Prod.snd e9).symm⟩ dX1_handle_32
    · refine lv_bipush (v := (-3)) hx hb dX1_handle_10 (by decide) ?_
      have e9 : xf_handle k so a b w σ = ((-3), σ) := (if_neg c1).trans ((if_neg c7).trans (rfl))
      refine W.widen (k := 1) (n := 8) (by omega) (by omega) ?_
      exact z_reti2 (wf := fun u9 : SX × (Nat → Nat) => xW O K u9.2 u9.1) (u := (σ, ad)) hx hb hr hlocks hK hP hD hS ⟨(congrArg Prod.fst e9).symm, (congrArg Prod.snd e9).symm⟩ dX1_handle_12
