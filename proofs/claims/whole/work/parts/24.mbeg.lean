noncomputable def mf_behind  (ix : Int32) (h : Int32) (v : Int64) (σ : SM) : SM := if ((m_so σ) h.toNatClampNeg) = 10 then (if (m_fa σ) = 0 then (if ((m_so σ) h.toNatClampNeg) = 7 then (if ((m_sg σ) ix.toNatClampNeg) = 1 then (if (m_fa σ) = 0 then (mf_goOn ix ((m_ot σ) h.toNatClampNeg) v σ) else (ms_tp σ ((m_tp σ) - 1))) else (ms_tp σ ((m_tp σ) - 1))) else (ms_tp σ ((m_tp σ) - 1))) else (if (m_fa σ) = 6 then (if ((m_so σ) h.toNatClampNeg) = 7 then (if ((m_sg σ) ix.toNatClampNeg) = 1 then (if (m_fa σ) = 0 then (mf_goOn ix ((m_ot σ) h.toNatClampNeg) v σ) else (ms_tp σ ((m_tp σ) - 1))) else (ms_tp σ ((m_tp σ) - 1))) else (ms_tp σ ((m_tp σ) - 1))) else (mf_ends 0 (mf_keep ((m_as σ) h.toNatClampNeg) (((m_fa σ)).toInt64) σ)))) else (if ((m_so σ) h.toNatClampNeg) = 7 then (if ((m_sg σ) ix.toNatClampNeg) = 1 then (if (m_fa σ) = 0 then (mf_goOn ix ((m_ot σ) h.toNatClampNeg) v σ) else (ms_tp σ ((m_tp σ) - 1))) else (ms_tp σ ((m_tp σ) - 1))) else (ms_tp σ ((m_tp σ) - 1)))
set_option maxRecDepth 100000 in
set_option maxHeartbeats 4000000 in
theorem cMM_behind (l : Launch) (D : va_G) (O : Nat → Nat) (K : Nat → ClassId) (ix : Int32) (h : Int32) (v : Int64) (σ : SM) (h1 : vp_in h 202) (h2 : vp_in ix 8) (h4 : ¬ m_tp σ = 8 → vp_in (m_tp σ) 8) (h3 : m_so σ h.toNatClampNeg = 10 → vp_in (m_as σ h.toNatClampNeg) 6) : cV l yX2_behind wsX2_behind { frames := 2, cells := 0, slots := 0, locals := 200 } 0 0 D (mT K) (mW O K) σ [.ref (O 0), .int ix, .int h, .long v] (mf_behind ix h v σ) := by
  intro sz
  refine z_start (cc := cX2_behind) (maxL := 5) (ret := none) (Qc := fun A => va_Qv (fun u9 => u9 = (mf_behind ix h v σ)) (zB D (mT K) (mW O K) A) A) sz (by decide) rfl (Nat.le_of_ble_eq_true rfl) ?_
  intro p e s m below meth c A X hA hK hP hD hS ls hl
  obtain ⟨hx, hb, hr, hml, hts, hown, hlocks, hnm⟩ := X
  have hown : s.vm.findClass RX2 = some m.cls := hown
  have hl : lv_has ls 5 [(0, .ref (O 0)), (1, .int ix), (2, .int h), (3, .long v)] := hl
  have inW : ∀ w ∈ wsX20, w ∈ wsX2_behind := fun w h => List.mem_cons_of_mem _ (List.mem_append_right _ h)
  have XX : CallFix p m c cX2_behind 5 s _ wsX2_behind RX2 := ⟨hx, hb, hml, hown, hts⟩
  have k17 := hts (.fieldLink RX2 17 "MailRoomModel" "sorts" "[I") (List.mem_of_getElem? (i := 1) rfl)
  have k96 := hts (.fieldLink RX2 96 "MailRoomModel" "top" "I") (List.mem_of_getElem? (i := 6) rfl)
  have k62 := hts (.fieldLink RX2 62 "MailRoomModel" "stage" "[I") (List.mem_of_getElem? (i := 4) rfl)
  have k93 := hts (.fieldLink RX2 93 "MailRoomModel" "failure" "I") (List.mem_of_getElem? (i := 2) rfl)
  have k35 := hts (.fieldLink RX2 35 "MailRoomModel" "others" "[I") (List.mem_of_getElem? (i := 5) rfl)
  have k23 := hts (.fieldLink RX2 23 "MailRoomModel" "as" "[I") (List.mem_of_getElem? (i := 3) rfl)
  refine lv_aload_n hx hb dX2_behind_0 rfl (lv_at hl 0 rfl) ?_
  refine m_ga_3 hx hb hts inW hown hK hP k17 dX2_behind_1 ?_
  refine lv_iload_n hx hb dX2_behind_4 rfl (lv_at hl 2 rfl) ?_
  refine m_ld_so (f := (m_so σ)) (i := h) hx hb hK hP (rfl) (h1) dX2_behind_5 ?_
  refine lv_bipush (v := 10) hx hb dX2_behind_6 (by decide) ?_
  refine lv_icmp_ne (tgt := 50) hx hb dX2_behind_8 (by decide) (fun c8 => ?_) (fun c8 => ?_)
  · refine lv_aload_n hx hb dX2_behind_50 rfl (lv_at hl 0 rfl) ?_
    refine m_ga_3 hx hb hts inW hown hK hP k17 dX2_behind_51 ?_
    refine lv_iload_n hx hb dX2_behind_54 rfl (lv_at hl 2 rfl) ?_
    refine m_ld_so (f := (m_so σ)) (i := h) hx hb hK hP (rfl) (h1) dX2_behind_55 ?_
    refine lv_bipush (v := 7) hx hb dX2_behind_56 (by decide) ?_
    refine lv_icmp_ne (tgt := 93) hx hb dX2_behind_58 (by decide) (fun c58 => ?_) (fun c58 => ?_)
    · refine lv_aload_n hx hb dX2_behind_93 rfl (lv_at hl 0 rfl) ?_
      refine lv_dup hx hb dX2_behind_94 rfl ?_
      refine m_gi_tp (v := (m_tp σ)) hx hb hts inW hown hK hP (rfl) k96 dX2_behind_95 ?_
      refine lv_iconst (v := 1) hx hb dX2_behind_98 (by decide) ?_
      refine lv_isub hx hb dX2_behind_99 ?_
      refine m_pi_tp hx hb hts inW hown hK hP hD hS k96 dX2_behind_100 (fun H locs hP hD hS => ?_)
      exact z_retv hx hb hr hlocks hK hP hD hS ((if_neg c8).trans ((if_neg c58).trans (rfl))) dX2_behind_103
    · refine lv_aload_n hx hb dX2_behind_61 rfl (lv_at hl 0 rfl) ?_
      refine m_ga_18 hx hb hts inW hown hK hP k62 dX2_behind_62 ?_
      refine lv_iload_n hx hb dX2_behind_65 rfl (lv_at hl 1 rfl) ?_
      refine m_ld_sg (f := (m_sg σ)) (i := ix) hx hb hK hP (rfl) (h2) dX2_behind_66 ?_
      refine lv_iconst (v := 1) hx hb dX2_behind_67 (by decide) ?_
      refine lv_icmp_ne (tgt := 93) hx hb dX2_behind_68 (by decide) (fun c68 => ?_) (fun c68 => ?_)
      · refine lv_aload_n hx hb dX2_behind_93 rfl (lv_at hl 0 rfl) ?_
        refine lv_dup hx hb dX2_behind_94 rfl ?_
        refine m_gi_tp (v := (m_tp σ)) hx hb hts inW hown hK hP (rfl) k96 dX2_behind_95 ?_
        refine lv_iconst (v := 1) hx hb dX2_behind_98 (by decide) ?_
        refine lv_isub hx hb dX2_behind_99 ?_
        refine m_pi_tp hx hb hts inW hown hK hP hD hS k96 dX2_behind_100 (fun H locs hP hD hS => ?_)
        exact z_retv hx hb hr hlocks hK hP hD hS ((if_neg c8).trans ((if_pos c58).trans ((if_neg c68).trans (rfl)))) dX2_behind_103
      · refine lv_aload_n hx hb dX2_behind_71 rfl (lv_at hl 0 rfl) ?_
        refine m_gi_fa (v := (m_fa σ)) hx hb hts inW hown hK hP (rfl) k93 dX2_behind_72 ?_
        refine lv_if_ne (tgt := 93) hx hb dX2_behind_75 (by decide) (fun c75 => ?_) (fun c75 => ?_)
        · refine lv_aload_n hx hb dX2_behind_93 rfl (lv_at hl 0 rfl) ?_
          refine lv_dup hx hb dX2_behind_94 rfl ?_
          refine m_gi_tp (v := (m_tp σ)) hx hb hts inW hown hK hP (rfl) k96 dX2_behind_95 ?_
          refine lv_iconst (v := 1) hx hb dX2_behind_98 (by decide) ?_
          refine lv_isub hx hb dX2_behind_99 ?_
          refine m_pi_tp hx hb hts inW hown hK hP hD hS k96 dX2_behind_100 (fun H locs hP hD hS => ?_)
          exact z_retv hx hb hr hlocks hK hP hD hS ((if_neg c8).trans ((if_pos c58).trans ((if_pos c68).trans ((if_neg c75).trans (rfl))))) dX2_behind_103
        · refine lv_aload_n hx hb dX2_behind_78 rfl (lv_at hl 0 rfl) ?_
          refine lv_iload_n hx hb dX2_behind_79 rfl (lv_at hl 1 rfl) ?_
          refine lv_aload_n hx hb dX2_behind_80 rfl (lv_at hl 0 rfl) ?_
          refine m_ga_9 hx hb hts inW hown hK hP k35 dX2_behind_81 ?_
          refine lv_iload_n hx hb dX2_behind_84 rfl (lv_at hl 2 rfl) ?_
          refine m_ld_ot (f := (m_ot σ)) (i := h) hx hb hK hP (rfl) (h1) dX2_behind_85 ?_
          refine lv_lload_n hx hb dX2_behind_86 rfl (lv_at hl 3 rfl) ?_
          refine z_callv (As := [.int ix, .int ((m_ot σ) h.toNatClampNeg), .long v]) (rest := []) XX (cMM_goOn l D O K ix ((m_ot σ) h.toNatClampNeg) v σ (h2) (h4)) (cwV 3 hts gX2_behind_X2_goOn rfl rfl rfl qX2_goOn ⟨by decide, by decide⟩) (va_recv hK hP (ci := 2) (q0 := 0) rfl rfl) hK hP hD hS hA rfl hl.1 rfl (Nat.le_of_ble_eq_true rfl) dX2_behind_87 ⟨Nat.zero_le _, Nat.zero_le _⟩ (fun H locs hP hD hS => ?_)
          refine lv_goto (tgt := 103) hx hb dX2_behind_90 (by decide) ?_
          exact z_retv hx hb hr hlocks hK hP hD hS ((if_neg c8).trans ((if_pos c58).trans ((if_pos c68).trans ((if_pos c75).trans (rfl))))) dX2_behind_103
  · refine lv_aload_n hx hb dX2_behind_11 rfl (lv_at hl 0 rfl) ?_
    refine m_gi_fa (v := (m_fa σ)) hx hb hts inW hown hK hP (rfl) k93 dX2_behind_12 ?_
    refine lv_if_eq (tgt := 50) hx hb dX2_behind_15 (by decide) (fun c15 => ?_) (fun c15 => ?_)
    · refine lv_aload_n hx hb dX2_behind_50 rfl (lv_at hl 0 rfl) ?_
      refine m_ga_3 hx hb hts inW hown hK hP k17 dX2_behind_51 ?_
      refine lv_iload_n hx hb dX2_behind_54 rfl (lv_at hl 2 rfl) ?_
      refine m_ld_so (f := (m_so σ)) (i := h) hx hb hK hP (rfl) (h1) dX2_behind_55 ?_
      refine lv_bipush (v := 7) hx hb dX2_behind_56 (by decide) ?_
      refine lv_icmp_ne (tgt := 93) hx hb dX2_behind_58 (by decide) (fun c58 => ?_) (fun c58 => ?_)
      · refine lv_aload_n hx hb dX2_behind_93 rfl (lv_at hl 0 rfl) ?_
        refine lv_dup hx hb dX2_behind_94 rfl ?_
        refine m_gi_tp (v := (m_tp σ)) hx hb hts inW hown hK hP (rfl) k96 dX2_behind_95 ?_
        refine lv_iconst (v := 1) hx hb dX2_behind_98 (by decide) ?_
        refine lv_isub hx hb dX2_behind_99 ?_
        refine m_pi_tp hx hb hts inW hown hK hP hD hS k96 dX2_behind_100 (fun H locs hP hD hS => ?_)
        exact z_retv hx hb hr hlocks hK hP hD hS ((if_pos c8).trans ((if_pos c15).trans ((if_neg c58).trans (rfl)))) dX2_behind_103
      · refine lv_aload_n hx hb dX2_behind_61 rfl (lv_at hl 0 rfl) ?_
        refine m_ga_18 hx hb hts inW hown hK hP k62 dX2_behind_62 ?_
        refine lv_iload_n hx hb dX2_behind_65 rfl (lv_at hl 1 rfl) ?_
        refine m_ld_sg (f := (m_sg σ)) (i := ix) hx hb hK hP (rfl) (h2) dX2_behind_66 ?_
        refine lv_iconst (v := 1) hx hb dX2_behind_67 (by decide) ?_
        refine lv_icmp_ne (tgt := 93) hx hb dX2_behind_68 (by decide) (fun c68 => ?_) (fun c68 => ?_)
        · refine lv_aload_n hx hb dX2_behind_93 rfl (lv_at hl 0 rfl) ?_
          refine lv_dup hx hb dX2_behind_94 rfl ?_
          refine m_gi_tp (v := (m_tp σ)) hx hb hts inW hown hK hP (rfl) k96 dX2_behind_95 ?_
          refine lv_iconst (v := 1) hx hb dX2_behind_98 (by decide) ?_
          refine lv_isub hx hb dX2_behind_99 ?_
          refine m_pi_tp hx hb hts inW hown hK hP hD hS k96 dX2_behind_100 (fun H locs hP hD hS => ?_)
          exact z_retv hx hb hr hlocks hK hP hD hS ((if_pos c8).trans ((if_pos c15).trans ((if_pos c58).trans ((if_neg c68).trans (rfl))))) dX2_behind_103
        · refine lv_aload_n hx hb dX2_behind_71 rfl (lv_at hl 0 rfl) ?_
          refine m_gi_fa (v := (m_fa σ)) hx hb hts inW hown hK hP (rfl) k93 dX2_behind_72 ?_
          refine lv_if_ne (tgt := 93) hx hb dX2_behind_75 (by decide) (fun c75 => ?_) (fun c75 => ?_)
          · refine lv_aload_n hx hb dX2_behind_93 rfl (lv_at hl 0 rfl) ?_
            refine lv_dup hx hb dX2_behind_94 rfl ?_
            refine m_gi_tp (v := (m_tp σ)) hx hb hts inW hown hK hP (rfl) k96 dX2_behind_95 ?_
            refine lv_iconst (v := 1) hx hb dX2_behind_98 (by decide) ?_
            refine lv_isub hx hb dX2_behind_99 ?_
            refine m_pi_tp hx hb hts inW hown hK hP hD hS k96 dX2_behind_100 (fun H locs hP hD hS => ?_)
            exact z_retv hx hb hr hlocks hK hP hD hS ((if_pos c8).trans ((if_pos c15).trans ((if_pos c58).trans ((if_pos c68).trans ((if_neg c75).trans (rfl)))))) dX2_behind_103
          · refine lv_aload_n hx hb dX2_behind_78 rfl (lv_at hl 0 rfl) ?_
            refine lv_iload_n hx hb dX2_behind_79 rfl (lv_at hl 1 rfl) ?_
            refine lv_aload_n hx hb dX2_behind_80 rfl (lv_at hl 0 rfl) ?_
            refine m_ga_9 hx hb hts inW hown hK hP k35 dX2_behind_81 ?_
            refine lv_iload_n hx hb dX2_behind_84 rfl (lv_at hl 2 rfl) ?_
            refine m_ld_ot (f := (m_ot σ)) (i := h) hx hb hK hP (rfl) (h1) dX2_behind_85 ?_
            refine lv_lload_n hx hb dX2_behind_86 rfl (lv_at hl 3 rfl) ?_
            refine z_callv (As := [.int ix, .int ((m_ot σ) h.toNatClampNeg), .long v]) (rest := []) XX (cMM_goOn l D O K ix ((m_ot σ) h.toNatClampNeg) v σ (h2) (h4)) (cwV 3 hts gX2_behind_X2_goOn rfl rfl rfl qX2_goOn ⟨by decide, by decide⟩) (va_recv hK hP (ci := 2) (q0 := 0) rfl rfl) hK hP hD hS hA rfl hl.1 rfl (Nat.le_of_ble_eq_true rfl) dX2_behind_87 ⟨Nat.zero_le _, Nat.zero_le _⟩ (fun H locs hP hD hS => ?_)
            refine lv_goto (tgt := 103) hx hb dX2_behind_90 (by decide) ?_
            exact z_retv hx hb hr hlocks hK hP hD hS ((if_pos c8).trans ((if_pos c15).trans ((if_pos c58).trans ((if_pos c68).trans ((if_pos c75).trans (rfl)))))) dX2_behind_103
    · refine lv_aload_n hx hb dX2_behind_18 rfl (lv_at hl 0 rfl) ?_
      refine m_gi_fa (v := (m_fa σ)) hx hb hts inW hown hK hP (rfl) k93 dX2_behind_19 ?_
      refine lv_bipush (v := 6) hx hb dX2_behind_22 (by decide) ?_
      refine lv_icmp_eq (tgt := 50) hx hb dX2_behind_24 (by decide) (fun c24 => ?_) (fun c24 => ?_)
      · refine lv_aload_n hx hb dX2_behind_50 rfl (lv_at hl 0 rfl) ?_
        refine m_ga_3 hx hb hts inW hown hK hP k17 dX2_behind_51 ?_
        refine lv_iload_n hx hb dX2_behind_54 rfl (lv_at hl 2 rfl) ?_
        refine m_ld_so (f := (m_so σ)) (i := h) hx hb hK hP (rfl) (h1) dX2_behind_55 ?_
        refine lv_bipush (v := 7) hx hb dX2_behind_56 (by decide) ?_
        refine lv_icmp_ne (tgt := 93) hx hb dX2_behind_58 (by decide) (fun c58 => ?_) (fun c58 => ?_)
        · refine lv_aload_n hx hb dX2_behind_93 rfl (lv_at hl 0 rfl) ?_
          refine lv_dup hx hb dX2_behind_94 rfl ?_
          refine m_gi_tp (v := (m_tp σ)) hx hb hts inW hown hK hP (rfl) k96 dX2_behind_95 ?_
          refine lv_iconst (v := 1) hx hb dX2_behind_98 (by decide) ?_
          refine lv_isub hx hb dX2_behind_99 ?_
          refine m_pi_tp hx hb hts inW hown hK hP hD hS k96 dX2_behind_100 (fun H locs hP hD hS => ?_)
          exact z_retv hx hb hr hlocks hK hP hD hS ((if_pos c8).trans ((if_neg c15).trans ((if_pos c24).trans ((if_neg c58).trans (rfl))))) dX2_behind_103
        · refine lv_aload_n hx hb dX2_behind_61 rfl (lv_at hl 0 rfl) ?_
          refine m_ga_18 hx hb hts inW hown hK hP k62 dX2_behind_62 ?_
          refine lv_iload_n hx hb dX2_behind_65 rfl (lv_at hl 1 rfl) ?_
          refine m_ld_sg (f := (m_sg σ)) (i := ix) hx hb hK hP (rfl) (h2) dX2_behind_66 ?_
          refine lv_iconst (v := 1) hx hb dX2_behind_67 (by decide) ?_
          refine lv_icmp_ne (tgt := 93) hx hb dX2_behind_68 (by decide) (fun c68 => ?_) (fun c68 => ?_)
          · refine lv_aload_n hx hb dX2_behind_93 rfl (lv_at hl 0 rfl) ?_
            refine lv_dup hx hb dX2_behind_94 rfl ?_
            refine m_gi_tp (v := (m_tp σ)) hx hb hts inW hown hK hP (rfl) k96 dX2_behind_95 ?_
            refine lv_iconst (v := 1) hx hb dX2_behind_98 (by decide) ?_
            refine lv_isub hx hb dX2_behind_99 ?_
            refine m_pi_tp hx hb hts inW hown hK hP hD hS k96 dX2_behind_100 (fun H locs hP hD hS => ?_)
            exact z_retv hx hb hr hlocks hK hP hD hS ((if_pos c8).trans ((if_neg c15).trans ((if_pos c24).trans ((if_pos c58).trans ((if_neg c68).trans (rfl)))))) dX2_behind_103
          · refine lv_aload_n hx hb dX2_behind_71 rfl (lv_at hl 0 rfl) ?_
            refine m_gi_fa (v := (m_fa σ)) hx hb hts inW hown hK hP (rfl) k93 dX2_behind_72 ?_
            refine lv_if_ne (tgt := 93) hx hb dX2_behind_75 (by decide) (fun c75 => ?_) (fun c75 => ?_)
            · refine lv_aload_n hx hb dX2_behind_93 rfl (lv_at hl 0 rfl) ?_
              refine lv_dup hx hb dX2_behind_94 rfl ?_
              refine m_gi_tp (v := (m_tp σ)) hx hb hts inW hown hK hP (rfl) k96 dX2_behind_95 ?_
              refine lv_iconst (v := 1) hx hb dX2_behind_98 (by decide) ?_
              refine lv_isub hx hb dX2_behind_99 ?_
              refine m_pi_tp hx hb hts inW hown hK hP hD hS k96 dX2_behind_100 (fun H locs hP hD hS => ?_)
              exact z_retv hx hb hr hlocks hK hP hD hS ((if_pos c8).trans ((if_neg c15).trans ((if_pos c24).trans ((if_pos c58).trans ((if_pos c68).trans ((if_neg c75).trans (rfl))))))) dX2_behind_103
            · refine lv_aload_n hx hb dX2_behind_78 rfl (lv_at hl 0 rfl) ?_
              refine lv_iload_n hx hb dX2_behind_79 rfl (lv_at hl 1 rfl) ?_
              refine lv_aload_n hx hb dX2_behind_80 rfl (lv_at hl 0 rfl) ?_
              refine m_ga_9 hx hb hts inW hown hK hP k35 dX2_behind_81 ?_
              refine lv_iload_n hx hb dX2_behind_84 rfl (lv_at hl 2 rfl) ?_
              refine m_ld_ot (f := (m_ot σ)) (i := h) hx hb hK hP (rfl) (h1) dX2_behind_85 ?_
              refine lv_lload_n hx hb dX2_behind_86 rfl (lv_at hl 3 rfl) ?_
              refine z_callv (As := [.int ix, .int ((m_ot σ) h.toNatClampNeg), .long v]) (rest := []) XX (cMM_goOn l D O K ix ((m_ot σ) h.toNatClampNeg) v σ (h2) (h4)) (cwV 3 hts gX2_behind_X2_goOn rfl rfl rfl qX2_goOn ⟨by decide, by decide⟩) (va_recv hK hP (ci := 2) (q0 := 0) rfl rfl) hK hP hD hS hA rfl hl.1 rfl (Nat.le_of_ble_eq_true rfl) dX2_behind_87 ⟨Nat.zero_le _, Nat.zero_le _⟩ (fun H locs hP hD hS => ?_)
              refine lv_goto (tgt := 103) hx hb dX2_behind_90 (by decide) ?_
              exact z_retv hx hb hr hlocks hK hP hD hS ((if_pos c8).trans ((if_neg c15).trans ((if_pos c24).trans ((if_pos c58).trans ((if_pos c68).trans ((if_pos c75).trans (rfl))))))) dX2_behind_103
      · refine lv_aload_n hx hb dX2_behind_27 rfl (lv_at hl 0 rfl) ?_
        refine lv_aload_n hx hb dX2_behind_28 rfl (lv_at hl 0 rfl) ?_
        refine m_ga_5 hx hb hts inW hown hK hP k23 dX2_behind_29 ?_
        refine lv_iload_n hx hb dX2_behind_32 rfl (lv_at hl 2 rfl) ?_
        refine m_ld_as (f := (m_as σ)) (i := h) hx hb hK hP (rfl) (h1) dX2_behind_33 ?_
        refine lv_aload_n hx hb dX2_behind_34 rfl (lv_at hl 0 rfl) ?_
        refine m_gi_fa (v := (m_fa σ)) hx hb hts inW hown hK hP (rfl) k93 dX2_behind_35 ?_
        refine lv_i2l (v := ((m_fa σ)).toInt64) hx hb dX2_behind_38 rfl ?_
        refine z_callv (As := [.int ((m_as σ) h.toNatClampNeg), .long (((m_fa σ)).toInt64)]) (rest := []) XX (cMM_keep l D O K ((m_as σ) h.toNatClampNeg) (((m_fa σ)).toInt64) σ (h3 c8)) (cwV 2 hts gX2_behind_X2_keep rfl rfl rfl qX2_keep ⟨by decide, by decide⟩) (va_recv hK hP (ci := 2) (q0 := 0) rfl rfl) hK hP hD hS hA rfl hl.1 rfl (Nat.le_of_ble_eq_true rfl) dX2_behind_39 ⟨Nat.zero_le _, Nat.zero_le _⟩ (fun H locs hP hD hS => ?_)
        refine lv_aload_n hx hb dX2_behind_42 rfl (lv_at hl 0 rfl) ?_
        refine lv_iconst (v := 0) hx hb dX2_behind_43 (by decide) ?_
        refine z_callv (As := [.int 0]) (rest := []) XX (cMM_ends l D O K 0 (mf_keep ((m_as σ) h.toNatClampNeg) (((m_fa σ)).toInt64) σ)) (cwV 1 hts gX2_behind_X2_ends rfl rfl rfl qX2_ends ⟨by decide, by decide⟩) (va_recv hK hP (ci := 2) (q0 := 0) rfl rfl) hK hP hD hS hA rfl hl.1 rfl (Nat.le_of_ble_eq_true rfl) dX2_behind_44 ⟨Nat.zero_le _, Nat.zero_le _⟩ (fun H locs hP hD hS => ?_)
        refine lv_goto (tgt := 103) hx hb dX2_behind_47 (by decide) ?_
        exact z_retv hx hb hr hlocks hK hP hD hS ((if_pos c8).trans ((if_neg c15).trans ((if_neg c24).trans (rfl)))) dX2_behind_103
noncomputable def mf_begins  (ix : Int32) (h : Int32) (v : Int64) (σ : SM) : SM := if ((m_so σ) h.toNatClampNeg) = 0 then (mf_ends 0 (mf_keep ((m_as σ) h.toNatClampNeg) v σ)) else (if ((m_so σ) h.toNatClampNeg) = 1 then (mf_sends ((m_as σ) h.toNatClampNeg) (v + ((m_cs σ) h.toNatClampNeg)) σ) else (if ((m_so σ) h.toNatClampNeg) = 2 then (mf_goOn ix ((m_ot σ) h.toNatClampNeg) (v + ((m_cs σ) h.toNatClampNeg)) σ) else (if ((m_so σ) h.toNatClampNeg) = 3 then (mf_goOn ix ((m_st σ) ((m_as σ) h.toNatClampNeg).toNatClampNeg) (v + ((m_cs σ) h.toNatClampNeg)) σ) else (if ((m_so σ) h.toNatClampNeg) = 4 then (if (lg_cmp ((m_cs σ) h.toNatClampNeg) 0) = 0 then (mf_ends 2 σ) else (if (lg_cmp (v - v / ((m_cs σ) h.toNatClampNeg) * ((m_cs σ) h.toNatClampNeg)) ((((m_as σ) h.toNatClampNeg)).toInt64)) = 0 then (mf_goOn ix ((m_fo σ) h.toNatClampNeg) v σ) else (mf_ends 0 σ))) else (if ((m_so σ) h.toNatClampNeg) = 5 then (if ((m_le σ) h.toNatClampNeg) = ((m_bs σ) h.toNatClampNeg) then (mf_ends 4 σ) else (mf_goOn ix ((m_fo σ) h.toNatClampNeg) v (ms_le σ (upd (m_le σ) h.toNatClampNeg (((m_le σ) h.toNatClampNeg) + 1))))) else (if ((m_so σ) h.toNatClampNeg) = 6 then (mf_ends 0 (ms_st (mf_keep ((m_as σ) h.toNatClampNeg) v σ) (upd (m_st (mf_keep ((m_as σ) h.toNatClampNeg) v σ)) (((m_ki (mf_keep ((m_as σ) h.toNatClampNeg) v σ)) h.toNatClampNeg).toNatClampNeg) ((m_fo (mf_keep ((m_as σ) h.toNatClampNeg) v σ)) h.toNatClampNeg)))) else (if ((m_so σ) h.toNatClampNeg) = 7 then (mf_goOn ix ((m_fo σ) h.toNatClampNeg) v σ) else (if ((m_so σ) h.toNatClampNeg) = 8 then (mf_shares ((m_as σ) h.toNatClampNeg) ((m_bs σ) h.toNatClampNeg) v ((m_cs σ) h.toNatClampNeg) σ) else (if ((m_so σ) h.toNatClampNeg) = 9 then (if (mf_isBox ((v).toInt32)) = 0 then (if (mf_isBox ((v).toInt32)) = 0 then (mf_ends 3 σ) else (mf_ends 0 σ)) else (if (mf_isBox ((v).toInt32)) = 0 then (mf_ends 3 (mf_keep ((v).toInt32) 1 σ)) else (mf_ends 0 (mf_keep ((v).toInt32) 1 σ)))) else (if ((m_so σ) h.toNatClampNeg) = 10 then (mf_goOn ix ((m_fo σ) h.toNatClampNeg) v σ) else (if ((m_so σ) h.toNatClampNeg) = 11 then (if 0 ≤ ((m_fo (mf_keep ((m_as σ) h.toNatClampNeg) v σ)) h.toNatClampNeg) then (mf_goOn ix ((m_fo (mf_keep ((m_as σ) h.toNatClampNeg) v σ)) h.toNatClampNeg) (((m_su (mf_keep ((m_as σ) h.toNatClampNeg) v σ)) ((m_as σ) h.toNatClampNeg).toNatClampNeg) / (((m_co (mf_keep ((m_as σ) h.toNatClampNeg) v σ)) ((m_as σ) h.toNatClampNeg).toNatClampNeg)).toInt64) (mf_keep ((m_as σ) h.toNatClampNeg) v σ)) else (mf_ends 0 (mf_keep ((m_as σ) h.toNatClampNeg) v σ))) else (if ((m_so σ) h.toNatClampNeg) = 12 then (if (lg_cmp v 1) ≤ 0 then (mf_ends 0 (mf_keep 1 v σ)) else (mf_sends 0 (v - 1) (mf_keep 1 v σ))) else (mf_goOn ix ((m_fo σ) h.toNatClampNeg) v σ)))))))))))))
set_option maxRecDepth 100000 in
set_option maxHeartbeats 4000000 in
theorem cMM_begins (l : Launch) (D : va_G) (O : Nat → Nat) (K : Nat → ClassId) (ix : Int32) (h : Int32) (v : Int64) (σ : SM) (h1 : vp_in h 202) (h2 : vp_in ix 8) (h4 : ¬ m_tp σ = 8 → vp_in (m_tp σ) 8) (h5 : ¬ m_sz σ = 40 → vp_in (m_sz σ) 40) (h0 : m_so σ h.toNatClampNeg = 0 → vp_in (m_as σ h.toNatClampNeg) 6) (h3 : m_so σ h.toNatClampNeg = 3 → vp_in (m_as σ h.toNatClampNeg) 10) (h6 : m_so σ h.toNatClampNeg = 6 → vp_in (m_as σ h.toNatClampNeg) 6 ∧ vp_in (m_ki σ h.toNatClampNeg) 10) (h8 : m_so σ h.toNatClampNeg = 8 → vp_in (m_as σ h.toNatClampNeg) 6 ∧ vp_in (m_bs σ h.toNatClampNeg) 6) (h11 : m_so σ h.toNatClampNeg = 11 → vp_in (m_as σ h.toNatClampNeg) 6 ∧ ¬ (m_co (mf_keep (m_as σ h.toNatClampNeg) v σ) (m_as σ h.toNatClampNeg).toNatClampNeg).toInt64 = 0) : cV l yX2_begins wsX2_begins { frames := 2, cells := 0, slots := 0, locals := 200 } 0 0 D (mT K) (mW O K) σ [.ref (O 0), .int ix, .int h, .long v] (mf_begins ix h v σ) := by
  intro sz
  refine z_start (cc := cX2_begins) (maxL := 9) (ret := none) (Qc := fun A => va_Qv (fun u9 => u9 = (mf_begins ix h v σ)) (zB D (mT K) (mW O K) A) A) sz (by decide) rfl (Nat.le_of_ble_eq_true rfl) ?_
  intro p e s m below meth c A X hA hK hP hD hS ls hl
  obtain ⟨hx, hb, hr, hml, hts, hown, hlocks, hnm⟩ := X
  have hown : s.vm.findClass RX2 = some m.cls := hown
  have hl : lv_has ls 9 [(0, .ref (O 0)), (1, .int ix), (2, .int h), (3, .long v)] := hl
  have inW : ∀ w ∈ wsX20, w ∈ wsX2_begins := fun w h => List.mem_cons_of_mem _ (List.mem_append_right _ h)
  have XX : CallFix p m c cX2_begins 9 s _ wsX2_begins RX2 := ⟨hx, hb, hml, hown, hts⟩
  have k23 := hts (.fieldLink RX2 23 "MailRoomModel" "as" "[I") (List.mem_of_getElem? (i := 1) rfl)
  have k29 := hts (.fieldLink RX2 29 "MailRoomModel" "cs" "[J") (List.mem_of_getElem? (i := 2) rfl)
  have k17 := hts (.fieldLink RX2 17 "MailRoomModel" "sorts" "[I") (List.mem_of_getElem? (i := 3) rfl)
  have k35 := hts (.fieldLink RX2 35 "MailRoomModel" "others" "[I") (List.mem_of_getElem? (i := 4) rfl)
  have k41 := hts (.fieldLink RX2 41 "MailRoomModel" "stands" "[I") (List.mem_of_getElem? (i := 5) rfl)
  have k32 := hts (.fieldLink RX2 32 "MailRoomModel" "formers" "[I") (List.mem_of_getElem? (i := 6) rfl)
  have k38 := hts (.fieldLink RX2 38 "MailRoomModel" "lets" "[I") (List.mem_of_getElem? (i := 7) rfl)
  have k26 := hts (.fieldLink RX2 26 "MailRoomModel" "bs" "[I") (List.mem_of_getElem? (i := 8) rfl)
  have k20 := hts (.fieldLink RX2 20 "MailRoomModel" "kinds" "[I") (List.mem_of_getElem? (i := 9) rfl)
  have k7 := hts (.fieldLink RX2 7 "MailRoomModel" "sums" "[J") (List.mem_of_getElem? (i := 10) rfl)
  have k13 := hts (.fieldLink RX2 13 "MailRoomModel" "counts" "[I") (List.mem_of_getElem? (i := 11) rfl)
  refine lv_aload_n hx hb dX2_begins_0 rfl (lv_at hl 0 rfl) ?_
  refine m_ga_5 hx hb hts inW hown hK hP k23 dX2_begins_1 ?_
  refine lv_iload_n hx hb dX2_begins_4 rfl (lv_at hl 2 rfl) ?_
  refine m_ld_as (f := (m_as σ)) (i := h) hx hb hK hP (rfl) (h1) dX2_begins_5 ?_
  refine lv_istore (lv' := [(5, .int ((m_as σ) h.toNatClampNeg)), (0, .ref (O 0)), (1, .int ix), (2, .int h), (3, .long v)]) hx hb dX2_begins_6 hl (by decide) rfl (fun ls hl => ?_)
  refine lv_aload_n hx hb dX2_begins_8 rfl (lv_at hl 1 rfl) ?_
  refine m_ga_7 hx hb hts inW hown hK hP k29 dX2_begins_9 ?_
  refine lv_iload_n hx hb dX2_begins_12 rfl (lv_at hl 3 rfl) ?_
  refine m_ld_cs (f := (m_cs σ)) (i := h) hx hb hK hP (rfl) (h1) dX2_begins_13 ?_
  refine lv_lstore (lv' := [(6, .long ((m_cs σ) h.toNatClampNeg)), (5, .int ((m_as σ) h.toNatClampNeg)), (0, .ref (O 0)), (1, .int ix), (2, .int h), (3, .long v)]) hx hb dX2_begins_14 hl (by decide) rfl (fun ls hl => ?_)
  refine lv_aload_n hx hb dX2_begins_16 rfl (lv_at hl 2 rfl) ?_
  refine m_ga_3 hx hb hts inW hown hK hP k17 dX2_begins_17 ?_
  refine lv_iload_n hx hb dX2_begins_20 rfl (lv_at hl 4 rfl) ?_
  refine m_ld_so (f := (m_so σ)) (i := h) hx hb hK hP (rfl) (h1) dX2_begins_21 ?_
  by_cases t22_0 : ((m_so σ) h.toNatClampNeg) = 0
  · refine lv_tableIn (off := 66) (tgt := 88) hx hb dX2_begins_22 (by rw [t22_0]; decide) (by rw [t22_0]; decide) (by rw [t22_0]; rfl) (by decide) ?_
    refine lv_aload_n hx hb dX2_begins_88 rfl (lv_at hl 2 rfl) ?_
    refine lv_iload hx hb dX2_begins_89 (lv_at hl 1 rfl) ?_
    refine lv_lload_n hx hb dX2_begins_91 rfl (lv_at hl 5 rfl) ?_
    refine z_callv (As := [.int ((m_as σ) h.toNatClampNeg), .long v]) (rest := []) XX (cMM_keep l D O K ((m_as σ) h.toNatClampNeg) v σ (h0 t22_0)) (cwV 2 hts gX2_begins_X2_keep rfl rfl rfl qX2_keep ⟨by decide, by decide⟩) (va_recv hK hP (ci := 2) (q0 := 0) rfl rfl) hK hP hD hS hA rfl hl.1 rfl (Nat.le_of_ble_eq_true rfl) dX2_begins_92 ⟨Nat.zero_le _, Nat.zero_le _⟩ (fun H locs hP hD hS => ?_)
    refine lv_aload_n hx hb dX2_begins_95 rfl (lv_at hl 2 rfl) ?_
    refine lv_iconst (v := 0) hx hb dX2_begins_96 (by decide) ?_
    refine z_callv (As := [.int 0]) (rest := []) XX (cMM_ends l D O K 0 (mf_keep ((m_as σ) h.toNatClampNeg) v σ)) (cwV 1 hts gX2_begins_X2_ends rfl rfl rfl qX2_ends ⟨by decide, by decide⟩) (va_recv hK hP (ci := 2) (q0 := 0) rfl rfl) hK hP hD hS hA rfl hl.1 rfl (Nat.le_of_ble_eq_true rfl) dX2_begins_97 ⟨Nat.zero_le _, Nat.zero_le _⟩ (fun H locs hP hD hS => ?_)
    refine lv_goto (tgt := 436) hx hb dX2_begins_100 (by decide) ?_
    exact z_retv hx hb hr hlocks hK hP hD hS ((if_pos t22_0).trans (rfl)) dX2_begins_436
  · by_cases t22_1 : ((m_so σ) h.toNatClampNeg) = 1
    · refine lv_tableIn (off := 81) (tgt := 103) hx hb dX2_begins_22 (by rw [t22_1]; decide) (by rw [t22_1]; decide) (by rw [t22_1]; rfl) (by decide) ?_
      refine lv_aload_n hx hb dX2_begins_103 rfl (lv_at hl 2 rfl) ?_
      refine lv_iload hx hb dX2_begins_104 (lv_at hl 1 rfl) ?_
      refine lv_lload_n hx hb dX2_begins_106 rfl (lv_at hl 5 rfl) ?_
      refine lv_lload hx hb dX2_begins_107 (lv_at hl 0 rfl) ?_
      refine lv_ladd hx hb dX2_begins_109 ?_
      refine z_callv (As := [.int ((m_as σ) h.toNatClampNeg), .long (v + ((m_cs σ) h.toNatClampNeg))]) (rest := []) XX (cMM_sends l D O K ((m_as σ) h.toNatClampNeg) (v + ((m_cs σ) h.toNatClampNeg)) σ (h5)) (cwV 2 hts gX2_begins_X2_sends rfl rfl rfl qX2_sends ⟨by decide, by decide⟩) (va_recv hK hP (ci := 2) (q0 := 0) rfl rfl) hK hP hD hS hA rfl hl.1 rfl (Nat.le_of_ble_eq_true rfl) dX2_begins_110 ⟨Nat.zero_le _, Nat.zero_le _⟩ (fun H locs hP hD hS => ?_)
      refine lv_goto (tgt := 436) hx hb dX2_begins_113 (by decide) ?_
      exact z_retv hx hb hr hlocks hK hP hD hS ((if_neg t22_0).trans ((if_pos t22_1).trans (rfl))) dX2_begins_436
    · by_cases t22_2 : ((m_so σ) h.toNatClampNeg) = 2
      · refine lv_tableIn (off := 94) (tgt := 116) hx hb dX2_begins_22 (by rw [t22_2]; decide) (by rw [t22_2]; decide) (by rw [t22_2]; rfl) (by decide) ?_
        refine lv_aload_n hx hb dX2_begins_116 rfl (lv_at hl 2 rfl) ?_
        refine lv_iload_n hx hb dX2_begins_117 rfl (lv_at hl 3 rfl) ?_
        refine lv_aload_n hx hb dX2_begins_118 rfl (lv_at hl 2 rfl) ?_
        refine m_ga_9 hx hb hts inW hown hK hP k35 dX2_begins_119 ?_
        refine lv_iload_n hx hb dX2_begins_122 rfl (lv_at hl 4 rfl) ?_
        refine m_ld_ot (f := (m_ot σ)) (i := h) hx hb hK hP (rfl) (h1) dX2_begins_123 ?_
        refine lv_lload_n hx hb dX2_begins_124 rfl (lv_at hl 5 rfl) ?_
        refine lv_lload hx hb dX2_begins_125 (lv_at hl 0 rfl) ?_
        refine lv_ladd hx hb dX2_begins_127 ?_
        refine z_callv (As := [.int ix, .int ((m_ot σ) h.toNatClampNeg), .long (v + ((m_cs σ) h.toNatClampNeg))]) (rest := []) XX (cMM_goOn l D O K ix ((m_ot σ) h.toNatClampNeg) (v + ((m_cs σ) h.toNatClampNeg)) σ (h2) (h4)) (cwV 3 hts gX2_begins_X2_goOn rfl rfl rfl qX2_goOn ⟨by decide, by decide⟩) (va_recv hK hP (ci := 2) (q0 := 0) rfl rfl) hK hP hD hS hA rfl hl.1 rfl (Nat.le_of_ble_eq_true rfl) dX2_begins_128 ⟨Nat.zero_le _, Nat.zero_le _⟩ (fun H locs hP hD hS => ?_)
        refine lv_goto (tgt := 436) hx hb dX2_begins_131 (by decide) ?_
        exact z_retv hx hb hr hlocks hK hP hD hS ((if_neg t22_0).trans ((if_neg t22_1).trans ((if_pos t22_2).trans (rfl)))) dX2_begins_436
      · by_cases t22_3 : ((m_so σ) h.toNatClampNeg) = 3
        · refine lv_tableIn (off := 112) (tgt := 134) hx hb dX2_begins_22 (by rw [t22_3]; decide) (by rw [t22_3]; decide) (by rw [t22_3]; rfl) (by decide) ?_
          refine lv_aload_n hx hb dX2_begins_134 rfl (lv_at hl 2 rfl) ?_
          refine lv_iload_n hx hb dX2_begins_135 rfl (lv_at hl 3 rfl) ?_
          refine lv_aload_n hx hb dX2_begins_136 rfl (lv_at hl 2 rfl) ?_
          refine m_ga_11 hx hb hts inW hown hK hP k41 dX2_begins_137 ?_
          refine lv_iload hx hb dX2_begins_140 (lv_at hl 1 rfl) ?_
          refine m_ld_st (f := (m_st σ)) (i := ((m_as σ) h.toNatClampNeg)) hx hb hK hP (rfl) (h3 t22_3) dX2_begins_142 ?_
          refine lv_lload_n hx hb dX2_begins_143 rfl (lv_at hl 5 rfl) ?_
          refine lv_lload hx hb dX2_begins_144 (lv_at hl 0 rfl) ?_
          refine lv_ladd hx hb dX2_begins_146 ?_
          refine z_callv (As := [.int ix, .int ((m_st σ) ((m_as σ) h.toNatClampNeg).toNatClampNeg), .long (v + ((m_cs σ) h.toNatClampNeg))]) (rest := []) XX (cMM_goOn l D O K ix ((m_st σ) ((m_as σ) h.toNatClampNeg).toNatClampNeg) (v + ((m_cs σ) h.toNatClampNeg)) σ (h2) (h4)) (cwV 3 hts gX2_begins_X2_goOn rfl rfl rfl qX2_goOn ⟨by decide, by decide⟩) (va_recv hK hP (ci := 2) (q0 := 0) rfl rfl) hK hP hD hS hA rfl hl.1 rfl (Nat.le_of_ble_eq_true rfl) dX2_begins_147 ⟨Nat.zero_le _, Nat.zero_le _⟩ (fun H locs hP hD hS => ?_)
          refine lv_goto (tgt := 436) hx hb dX2_begins_150 (by decide) ?_
          exact z_retv hx hb hr hlocks hK hP hD hS ((if_neg t22_0).trans ((if_neg t22_1).trans ((if_neg t22_2).trans ((if_pos t22_3).trans (rfl))))) dX2_begins_436
        · by_cases t22_4 : ((m_so σ) h.toNatClampNeg) = 4
          · refine lv_tableIn (off := 131) (tgt := 153) hx hb dX2_begins_22 (by rw [t22_4]; decide) (by rw [t22_4]; decide) (by rw [t22_4]; rfl) (by decide) ?_
            refine lv_lload hx hb dX2_begins_153 (lv_at hl 0 rfl) ?_
            refine lv_lconst (v := 0) hx hb dX2_begins_155 (by decide) ?_
            refine W.lcmp hx hb dX2_begins_156 ?_
            refine lv_if_ne (tgt := 168) hx hb dX2_begins_157 (by decide) (fun c157 => ?_) (fun c157 => ?_)
            · refine lv_lload_n hx hb dX2_begins_168 rfl (lv_at hl 5 rfl) ?_
              refine lv_lload hx hb dX2_begins_169 (lv_at hl 0 rfl) ?_
              refine lv_lrem hx hb dX2_begins_171 (z_l0 c157) ?_
              refine lv_iload hx hb dX2_begins_172 (lv_at hl 1 rfl) ?_
              refine lv_i2l (v := (((m_as σ) h.toNatClampNeg)).toInt64) hx hb dX2_begins_174 rfl ?_
              refine W.lcmp hx hb dX2_begins_175 ?_
              refine lv_if_ne (tgt := 194) hx hb dX2_begins_176 (by decide) (fun c176 => ?_) (fun c176 => ?_)
              · refine lv_aload_n hx hb dX2_begins_194 rfl (lv_at hl 2 rfl) ?_
                refine lv_iconst (v := 0) hx hb dX2_begins_195 (by decide) ?_
                refine z_callv (As := [.int 0]) (rest := []) XX (cMM_ends l D O K 0 σ) (cwV 1 hts gX2_begins_X2_ends rfl rfl rfl qX2_ends ⟨by decide, by decide⟩) (va_recv hK hP (ci := 2) (q0 := 0) rfl rfl) hK hP hD hS hA rfl hl.1 rfl (Nat.le_of_ble_eq_true rfl) dX2_begins_196 ⟨Nat.zero_le _, Nat.zero_le _⟩ (fun H locs hP hD hS => ?_)
                refine lv_goto (tgt := 436) hx hb dX2_begins_199 (by decide) ?_
                exact z_retv hx hb hr hlocks hK hP hD hS ((if_neg t22_0).trans ((if_neg t22_1).trans ((if_neg t22_2).trans ((if_neg t22_3).trans ((if_pos t22_4).trans ((if_neg c157).trans ((if_neg c176).trans (rfl)))))))) dX2_begins_436
              · refine lv_aload_n hx hb dX2_begins_179 rfl (lv_at hl 2 rfl) ?_
                refine lv_iload_n hx hb dX2_begins_180 rfl (lv_at hl 3 rfl) ?_
                refine lv_aload_n hx hb dX2_begins_181 rfl (lv_at hl 2 rfl) ?_
                refine m_ga_8 hx hb hts inW hown hK hP k32 dX2_begins_182 ?_
                refine lv_iload_n hx hb dX2_begins_185 rfl (lv_at hl 4 rfl) ?_
                refine m_ld_fo (f := (m_fo σ)) (i := h) hx hb hK hP (rfl) (h1) dX2_begins_186 ?_
                refine lv_lload_n hx hb dX2_begins_187 rfl (lv_at hl 5 rfl) ?_
                refine z_callv (As := [.int ix, .int ((m_fo σ) h.toNatClampNeg), .long v]) (rest := []) XX (cMM_goOn l D O K ix ((m_fo σ) h.toNatClampNeg) v σ (h2) (h4)) (cwV 3 hts gX2_begins_X2_goOn rfl rfl rfl qX2_goOn ⟨by decide, by decide⟩) (va_recv hK hP (ci := 2) (q0 := 0) rfl rfl) hK hP hD hS hA rfl hl.1 rfl (Nat.le_of_ble_eq_true rfl) dX2_begins_188 ⟨Nat.zero_le _, Nat.zero_le _⟩ (fun H locs hP hD hS => ?_)
                refine lv_goto (tgt := 436) hx hb dX2_begins_191 (by decide) ?_
                exact z_retv hx hb hr hlocks hK hP hD hS ((if_neg t22_0).trans ((if_neg t22_1).trans ((if_neg t22_2).trans ((if_neg t22_3).trans ((if_pos t22_4).trans ((if_neg c157).trans ((if_pos c176).trans (rfl)))))))) dX2_begins_436
            · refine lv_aload_n hx hb dX2_begins_160 rfl (lv_at hl 2 rfl) ?_
              refine lv_iconst (v := 2) hx hb dX2_begins_161 (by decide) ?_
              refine z_callv (As := [.int 2]) (rest := []) XX (cMM_ends l D O K 2 σ) (cwV 1 hts gX2_begins_X2_ends rfl rfl rfl qX2_ends ⟨by decide, by decide⟩) (va_recv hK hP (ci := 2) (q0 := 0) rfl rfl) hK hP hD hS hA rfl hl.1 rfl (Nat.le_of_ble_eq_true rfl) dX2_begins_162 ⟨Nat.zero_le _, Nat.zero_le _⟩ (fun H locs hP hD hS => ?_)
              refine lv_goto (tgt := 436) hx hb dX2_begins_165 (by decide) ?_
              exact z_retv hx hb hr hlocks hK hP hD hS ((if_neg t22_0).trans ((if_neg t22_1).trans ((if_neg t22_2).trans ((if_neg t22_3).trans ((if_pos t22_4).trans ((if_pos c157).trans (rfl))))))) dX2_begins_436
          · by_cases t22_5 : ((m_so σ) h.toNatClampNeg) = 5
            · refine lv_tableIn (off := 180) (tgt := 202) hx hb dX2_begins_22 (by rw [t22_5]; decide) (by rw [t22_5]; decide) (by rw [t22_5]; rfl) (by decide) ?_
              refine lv_aload_n hx hb dX2_begins_202 rfl (lv_at hl 2 rfl) ?_
              refine m_ga_10 hx hb hts inW hown hK hP k38 dX2_begins_203 ?_
              refine lv_iload_n hx hb dX2_begins_206 rfl (lv_at hl 4 rfl) ?_
              refine m_ld_le (f := (m_le σ)) (i := h) hx hb hK hP (rfl) (h1) dX2_begins_207 ?_
              refine lv_aload_n hx hb dX2_begins_208 rfl (lv_at hl 2 rfl) ?_
              refine m_ga_6 hx hb hts inW hown hK hP k26 dX2_begins_209 ?_
              refine lv_iload_n hx hb dX2_begins_212 rfl (lv_at hl 4 rfl) ?_
              refine m_ld_bs (f := (m_bs σ)) (i := h) hx hb hK hP (rfl) (h1) dX2_begins_213 ?_
              refine lv_icmp_ne (tgt := 225) hx hb dX2_begins_214 (by decide) (fun c214 => ?_) (fun c214 => ?_)
              · refine lv_aload_n hx hb dX2_begins_225 rfl (lv_at hl 2 rfl) ?_
                refine m_ga_10 hx hb hts inW hown hK hP k38 dX2_begins_226 ?_
                refine lv_iload_n hx hb dX2_begins_229 rfl (lv_at hl 4 rfl) ?_
                refine lv_dup2_11 hx hb dX2_begins_230 rfl rfl ?_
                refine m_ld_le (f := (m_le σ)) (i := h) hx hb hK hP (rfl) (h1) dX2_begins_231 ?_
                refine lv_iconst (v := 1) hx hb dX2_begins_232 (by decide) ?_
                refine lv_iadd hx hb dX2_begins_233 ?_
                refine m_st_le (f := (m_le σ)) (i := h) hx hb hK hP hD hS (rfl) (h1) dX2_begins_234 (fun H locs hP hD hS => ?_)
                refine lv_aload_n hx hb dX2_begins_235 rfl (lv_at hl 2 rfl) ?_
                refine lv_iload_n hx hb dX2_begins_236 rfl (lv_at hl 3 rfl) ?_
                refine lv_aload_n hx hb dX2_begins_237 rfl (lv_at hl 2 rfl) ?_
                refine m_ga_8 hx hb hts inW hown hK hP k32 dX2_begins_238 ?_
                refine lv_iload_n hx hb dX2_begins_241 rfl (lv_at hl 4 rfl) ?_
                refine m_ld_fo (f := (m_fo σ)) (i := h) hx hb hK hP (mr_fo_le _ _) (h1) dX2_begins_242 ?_
                refine lv_lload_n hx hb dX2_begins_243 rfl (lv_at hl 5 rfl) ?_
                refine z_callv (As := [.int ix, .int ((m_fo σ) h.toNatClampNeg), .long v]) (rest := []) XX (cMM_goOn l D O K ix ((m_fo σ) h.toNatClampNeg) v (ms_le σ (upd (m_le σ) h.toNatClampNeg (((m_le σ) h.toNatClampNeg) + 1))) (h2) (by rw [mr_tp_le]; exact h4)) (cwV 3 hts gX2_begins_X2_goOn rfl rfl rfl qX2_goOn ⟨by decide, by decide⟩) (va_recv hK hP (ci := 2) (q0 := 0) rfl rfl) hK hP hD hS hA rfl hl.1 rfl (Nat.le_of_ble_eq_true rfl) dX2_begins_244 ⟨Nat.zero_le _, Nat.zero_le _⟩ (fun H locs hP hD hS => ?_)
                refine lv_goto (tgt := 436) hx hb dX2_begins_247 (by decide) ?_
                exact z_retv hx hb hr hlocks hK hP hD hS ((if_neg t22_0).trans ((if_neg t22_1).trans ((if_neg t22_2).trans ((if_neg t22_3).trans ((if_neg t22_4).trans ((if_pos t22_5).trans ((if_neg c214).trans (rfl)))))))) dX2_begins_436
              · refine lv_aload_n hx hb dX2_begins_217 rfl (lv_at hl 2 rfl) ?_
                refine lv_iconst (v := 4) hx hb dX2_begins_218 (by decide) ?_
                refine z_callv (As := [.int 4]) (rest := []) XX (cMM_ends l D O K 4 σ) (cwV 1 hts gX2_begins_X2_ends rfl rfl rfl qX2_ends ⟨by decide, by decide⟩) (va_recv hK hP (ci := 2) (q0 := 0) rfl rfl) hK hP hD hS hA rfl hl.1 rfl (Nat.le_of_ble_eq_true rfl) dX2_begins_219 ⟨Nat.zero_le _, Nat.zero_le _⟩ (fun H locs hP hD hS => ?_)
                refine lv_goto (tgt := 436) hx hb dX2_begins_222 (by decide) ?_
                exact z_retv hx hb hr hlocks hK hP hD hS ((if_neg t22_0).trans ((if_neg t22_1).trans ((if_neg t22_2).trans ((if_neg t22_3).trans ((if_neg t22_4).trans ((if_pos t22_5).trans ((if_pos c214).trans (rfl)))))))) dX2_begins_436
            · by_cases t22_6 : ((m_so σ) h.toNatClampNeg) = 6
              · refine lv_tableIn (off := 228) (tgt := 250) hx hb dX2_begins_22 (by rw [t22_6]; decide) (by rw [t22_6]; decide) (by rw [t22_6]; rfl) (by decide) ?_
                refine lv_aload_n hx hb dX2_begins_250 rfl (lv_at hl 2 rfl) ?_
                refine lv_iload hx hb dX2_begins_251 (lv_at hl 1 rfl) ?_
                refine lv_lload_n hx hb dX2_begins_253 rfl (lv_at hl 5 rfl) ?_
                refine z_callv (As := [.int ((m_as σ) h.toNatClampNeg), .long v]) (rest := []) XX (cMM_keep l D O K ((m_as σ) h.toNatClampNeg) v σ ((h6 t22_6).1)) (cwV 2 hts gX2_begins_X2_keep rfl rfl rfl qX2_keep ⟨by decide, by decide⟩) (va_recv hK hP (ci := 2) (q0 := 0) rfl rfl) hK hP hD hS hA rfl hl.1 rfl (Nat.le_of_ble_eq_true rfl) dX2_begins_254 ⟨Nat.zero_le _, Nat.zero_le _⟩ (fun H locs hP hD hS => ?_)
                refine lv_aload_n hx hb dX2_begins_257 rfl (lv_at hl 2 rfl) ?_
                refine m_ga_11 hx hb hts inW hown hK hP k41 dX2_begins_258 ?_
                refine lv_aload_n hx hb dX2_begins_261 rfl (lv_at hl 2 rfl) ?_
                refine m_ga_4 hx hb hts inW hown hK hP k20 dX2_begins_262 ?_
                refine lv_iload_n hx hb dX2_begins_265 rfl (lv_at hl 4 rfl) ?_
                refine m_ld_ki (f := (m_ki (mf_keep ((m_as σ) h.toNatClampNeg) v σ))) (i := h) hx hb hK hP (rfl) (h1) dX2_begins_266 ?_
                refine lv_aload_n hx hb dX2_begins_267 rfl (lv_at hl 2 rfl) ?_
                refine m_ga_8 hx hb hts inW hown hK hP k32 dX2_begins_268 ?_
                refine lv_iload_n hx hb dX2_begins_271 rfl (lv_at hl 4 rfl) ?_
                refine m_ld_fo (f := (m_fo (mf_keep ((m_as σ) h.toNatClampNeg) v σ))) (i := h) hx hb hK hP (rfl) (h1) dX2_begins_272 ?_
                refine m_st_st (f := (m_st (mf_keep ((m_as σ) h.toNatClampNeg) v σ))) (i := ((m_ki (mf_keep ((m_as σ) h.toNatClampNeg) v σ)) h.toNatClampNeg)) hx hb hK hP hD hS (rfl) (by rw [mq_ki_keep]; exact (h6 t22_6).2) dX2_begins_273 (fun H locs hP hD hS => ?_)
                refine lv_aload_n hx hb dX2_begins_274 rfl (lv_at hl 2 rfl) ?_
                refine lv_iconst (v := 0) hx hb dX2_begins_275 (by decide) ?_
                refine z_callv (As := [.int 0]) (rest := []) XX (cMM_ends l D O K 0 (ms_st (mf_keep ((m_as σ) h.toNatClampNeg) v σ) (upd (m_st (mf_keep ((m_as σ) h.toNatClampNeg) v σ)) (((m_ki (mf_keep ((m_as σ) h.toNatClampNeg) v σ)) h.toNatClampNeg).toNatClampNeg) ((m_fo (mf_keep ((m_as σ) h.toNatClampNeg) v σ)) h.toNatClampNeg)))) (cwV 1 hts gX2_begins_X2_ends rfl rfl rfl qX2_ends ⟨by decide, by decide⟩) (va_recv hK hP (ci := 2) (q0 := 0) rfl rfl) hK hP hD hS hA rfl hl.1 rfl (Nat.le_of_ble_eq_true rfl) dX2_begins_276 ⟨Nat.zero_le _, Nat.zero_le _⟩ (fun H locs hP hD hS => ?_)
                refine lv_goto (tgt := 436) hx hb dX2_begins_279 (by decide) ?_
                exact z_retv hx hb hr hlocks hK hP hD hS ((if_neg t22_0).trans ((if_neg t22_1).trans ((if_neg t22_2).trans ((if_neg t22_3).trans ((if_neg t22_4).trans ((if_neg t22_5).trans ((if_pos t22_6).trans (rfl)))))))) dX2_begins_436
              · by_cases t22_7 : ((m_so σ) h.toNatClampNeg) = 7
                · refine lv_tableIn (off := 402) (tgt := 424) hx hb dX2_begins_22 (by rw [t22_7]; decide) (by rw [t22_7]; decide) (by rw [t22_7]; rfl) (by decide) ?_
                  refine lv_aload_n hx hb dX2_begins_424 rfl (lv_at hl 2 rfl) ?_
                  refine lv_iload_n hx hb dX2_begins_425 rfl (lv_at hl 3 rfl) ?_
                  refine lv_aload_n hx hb dX2_begins_426 rfl (lv_at hl 2 rfl) ?_
                  refine m_ga_8 hx hb hts inW hown hK hP k32 dX2_begins_427 ?_
                  refine lv_iload_n hx hb dX2_begins_430 rfl (lv_at hl 4 rfl) ?_
                  refine m_ld_fo (f := (m_fo σ)) (i := h) hx hb hK hP (rfl) (h1) dX2_begins_431 ?_
                  refine lv_lload_n hx hb dX2_begins_432 rfl (lv_at hl 5 rfl) ?_
                  refine z_callv (As := [.int ix, .int ((m_fo σ) h.toNatClampNeg), .long v]) (rest := []) XX (cMM_goOn l D O K ix ((m_fo σ) h.toNatClampNeg) v σ (h2) (h4)) (cwV 3 hts gX2_begins_X2_goOn rfl rfl rfl qX2_goOn ⟨by decide, by decide⟩) (va_recv hK hP (ci := 2) (q0 := 0) rfl rfl) hK hP hD hS hA rfl hl.1 rfl (Nat.le_of_ble_eq_true rfl) dX2_begins_433 ⟨Nat.zero_le _, Nat.zero_le _⟩ (fun H locs hP hD hS => ?_)
                  exact z_retv hx hb hr hlocks hK hP hD hS ((if_neg t22_0).trans ((if_neg t22_1).trans ((if_neg t22_2).trans ((if_neg t22_3).trans ((if_neg t22_4).trans ((if_neg t22_5).trans ((if_neg t22_6).trans ((if_pos t22_7).trans (rfl))))))))) dX2_begins_436
                · by_cases t22_8 : ((m_so σ) h.toNatClampNeg) = 8
                  · refine lv_tableIn (off := 260) (tgt := 282) hx hb dX2_begins_22 (by rw [t22_8]; decide) (by rw [t22_8]; decide) (by rw [t22_8]; rfl) (by decide) ?_
                    refine lv_aload_n hx hb dX2_begins_282 rfl (lv_at hl 2 rfl) ?_
                    refine lv_iload hx hb dX2_begins_283 (lv_at hl 1 rfl) ?_
                    refine lv_aload_n hx hb dX2_begins_285 rfl (lv_at hl 2 rfl) ?_
                    refine m_ga_6 hx hb hts inW hown hK hP k26 dX2_begins_286 ?_
                    refine lv_iload_n hx hb dX2_begins_289 rfl (lv_at hl 4 rfl) ?_
                    refine m_ld_bs (f := (m_bs σ)) (i := h) hx hb hK hP (rfl) (h1) dX2_begins_290 ?_
                    refine lv_lload_n hx hb dX2_begins_291 rfl (lv_at hl 5 rfl) ?_
                    refine lv_lload hx hb dX2_begins_292 (lv_at hl 0 rfl) ?_
                    refine z_callv (As := [.int ((m_as σ) h.toNatClampNeg), .int ((m_bs σ) h.toNatClampNeg), .long v, .long ((m_cs σ) h.toNatClampNeg)]) (rest := []) XX (cMM_shares l D O K ((m_as σ) h.toNatClampNeg) ((m_bs σ) h.toNatClampNeg) v ((m_cs σ) h.toNatClampNeg) σ ((h8 t22_8).1) ((h8 t22_8).2)) (cwV 4 hts gX2_begins_X2_shares rfl rfl rfl qX2_shares ⟨by decide, by decide⟩) (va_recv hK hP (ci := 2) (q0 := 0) rfl rfl) hK hP hD hS hA rfl hl.1 rfl (Nat.le_of_ble_eq_true rfl) dX2_begins_294 ⟨Nat.zero_le _, Nat.zero_le _⟩ (fun H locs hP hD hS => ?_)
                    refine lv_goto (tgt := 436) hx hb dX2_begins_297 (by decide) ?_
                    exact z_retv hx hb hr hlocks hK hP hD hS ((if_neg t22_0).trans ((if_neg t22_1).trans ((if_neg t22_2).trans ((if_neg t22_3).trans ((if_neg t22_4).trans ((if_neg t22_5).trans ((if_neg t22_6).trans ((if_neg t22_7).trans ((if_pos t22_8).trans (rfl)))))))))) dX2_begins_436
                  · by_cases t22_9 : ((m_so σ) h.toNatClampNeg) = 9
                    · refine lv_tableIn (off := 278) (tgt := 300) hx hb dX2_begins_22 (by rw [t22_9]; decide) (by rw [t22_9]; decide) (by rw [t22_9]; rfl) (by decide) ?_
                      refine lv_lload_n hx hb dX2_begins_300 rfl (lv_at hl 5 rfl) ?_
                      refine lv_l2i (v := (v).toInt32) hx hb dX2_begins_301 rfl ?_
                      refine lv_istore (lv' := [(8, .int ((v).toInt32)), (6, .long ((m_cs σ) h.toNatClampNeg)), (5, .int ((m_as σ) h.toNatClampNeg)), (0, .ref (O 0)), (1, .int ix), (2, .int h), (3, .long v)]) hx hb dX2_begins_302 hl (by decide) rfl (fun ls hl => ?_)
                      refine lv_iload hx hb dX2_begins_304 (lv_at hl 0 rfl) ?_
                      refine z_calls (As := [.int ((v).toInt32)]) (rest := []) XX (cMM_isBox l ((v).toInt32)) (va_cwS 1 hts gX2_begins_X2_isBox rfl rfl rfl qX2_isBox ⟨by decide, by decide⟩) rfl hl.1 rfl (Nat.le_of_ble_eq_true rfl) dX2_begins_306 ⟨Nat.zero_le _, Nat.zero_le _⟩ ?_
                      refine lv_if_eq (tgt := 319) hx hb dX2_begins_309 (by decide) (fun c309 => ?_) (fun c309 => ?_)
                      · refine lv_aload_n hx hb dX2_begins_319 rfl (lv_at hl 3 rfl) ?_
                        refine lv_iload hx hb dX2_begins_320 (lv_at hl 0 rfl) ?_
                        refine z_calls (As := [.int ((v).toInt32)]) (rest := [.ref (O 0)]) XX (cMM_isBox l ((v).toInt32)) (va_cwS 1 hts gX2_begins_X2_isBox rfl rfl rfl qX2_isBox ⟨by decide, by decide⟩) rfl hl.1 rfl (Nat.le_of_ble_eq_true rfl) dX2_begins_322 ⟨Nat.zero_le _, Nat.zero_le _⟩ ?_
                        refine lv_if_eq (tgt := 332) hx hb dX2_begins_325 (by decide) (fun c325 => ?_) (fun c325 => ?_)
                        · refine lv_iconst (v := 3) hx hb dX2_begins_332 (by decide) ?_
                          refine z_callv (As := [.int 3]) (rest := []) XX (cMM_ends l D O K 3 σ) (cwV 1 hts gX2_begins_X2_ends rfl rfl rfl qX2_ends ⟨by decide, by decide⟩) (va_recv hK hP (ci := 2) (q0 := 0) rfl rfl) hK hP hD hS hA rfl hl.1 rfl (Nat.le_of_ble_eq_true rfl) dX2_begins_333 ⟨Nat.zero_le _, Nat.zero_le _⟩ (fun H locs hP hD hS => ?_)
                          refine lv_goto (tgt := 436) hx hb dX2_begins_336 (by decide) ?_
                          exact z_retv hx hb hr hlocks hK hP hD hS ((if_neg t22_0).trans ((if_neg t22_1).trans ((if_neg t22_2).trans ((if_neg t22_3).trans ((if_neg t22_4).trans ((if_neg t22_5).trans ((if_neg t22_6).trans ((if_neg t22_7).trans ((if_neg t22_8).trans ((if_pos t22_9).trans ((if_pos c309).trans ((if_pos c325).trans (rfl))))))))))))) dX2_begins_436
                        · refine lv_iconst (v := 0) hx hb dX2_begins_328 (by decide) ?_
                          refine lv_goto (tgt := 333) hx hb dX2_begins_329 (by decide) ?_
                          refine z_callv (As := [.int 0]) (rest := []) XX (cMM_ends l D O K 0 σ) (cwV 1 hts gX2_begins_X2_ends rfl rfl rfl qX2_ends ⟨by decide, by decide⟩) (va_recv hK hP (ci := 2) (q0 := 0) rfl rfl) hK hP hD hS hA rfl hl.1 rfl (Nat.le_of_ble_eq_true rfl) dX2_begins_333 ⟨Nat.zero_le _, Nat.zero_le _⟩ (fun H locs hP hD hS => ?_)
                          refine lv_goto (tgt := 436) hx hb dX2_begins_336 (by decide) ?_
                          exact z_retv hx hb hr hlocks hK hP hD hS ((if_neg t22_0).trans ((if_neg t22_1).trans ((if_neg t22_2).trans ((if_neg t22_3).trans ((if_neg t22_4).trans ((if_neg t22_5).trans ((if_neg t22_6).trans ((if_neg t22_7).trans ((if_neg t22_8).trans ((if_pos t22_9).trans ((if_pos c309).trans ((if_neg c325).trans (rfl))))))))))))) dX2_begins_436
                      · refine lv_aload_n hx hb dX2_begins_312 rfl (lv_at hl 3 rfl) ?_
                        refine lv_iload hx hb dX2_begins_313 (lv_at hl 0 rfl) ?_
                        refine lv_lconst (v := 1) hx hb dX2_begins_315 (by decide) ?_
                        refine z_callv (As := [.int ((v).toInt32), .long 1]) (rest := []) XX (cMM_keep l D O K ((v).toInt32) 1 σ (mbox_in c309)) (cwV 2 hts gX2_begins_X2_keep rfl rfl rfl qX2_keep ⟨by decide, by decide⟩) (va_recv hK hP (ci := 2) (q0 := 0) rfl rfl) hK hP hD hS hA rfl hl.1 rfl (Nat.le_of_ble_eq_true rfl) dX2_begins_316 ⟨Nat.zero_le _, Nat.zero_le _⟩ (fun H locs hP hD hS => ?_)
                        refine lv_aload_n hx hb dX2_begins_319 rfl (lv_at hl 3 rfl) ?_
                        refine lv_iload hx hb dX2_begins_320 (lv_at hl 0 rfl) ?_
                        refine z_calls (As := [.int ((v).toInt32)]) (rest := [.ref (O 0)]) XX (cMM_isBox l ((v).toInt32)) (va_cwS 1 hts gX2_begins_X2_isBox rfl rfl rfl qX2_isBox ⟨by decide, by decide⟩) rfl hl.1 rfl (Nat.le_of_ble_eq_true rfl) dX2_begins_322 ⟨Nat.zero_le _, Nat.zero_le _⟩ ?_
                        refine lv_if_eq (tgt := 332) hx hb dX2_begins_325 (by decide) (fun c325 => ?_) (fun c325 => ?_)
                        · refine lv_iconst (v := 3) hx hb dX2_begins_332 (by decide) ?_
                          refine z_callv (As := [.int 3]) (rest := []) XX (cMM_ends l D O K 3 (mf_keep ((v).toInt32) 1 σ)) (cwV 1 hts gX2_begins_X2_ends rfl rfl rfl qX2_ends ⟨by decide, by decide⟩) (va_recv hK hP (ci := 2) (q0 := 0) rfl rfl) hK hP hD hS hA rfl hl.1 rfl (Nat.le_of_ble_eq_true rfl) dX2_begins_333 ⟨Nat.zero_le _, Nat.zero_le _⟩ (fun H locs hP hD hS => ?_)
                          refine lv_goto (tgt := 436) hx hb dX2_begins_336 (by decide) ?_
                          exact z_retv hx hb hr hlocks hK hP hD hS ((if_neg t22_0).trans ((if_neg t22_1).trans ((if_neg t22_2).trans ((if_neg t22_3).trans ((if_neg t22_4).trans ((if_neg t22_5).trans ((if_neg t22_6).trans ((if_neg t22_7).trans ((if_neg t22_8).trans ((if_pos t22_9).trans ((if_neg c309).trans ((if_pos c325).trans (rfl))))))))))))) dX2_begins_436
                        · refine lv_iconst (v := 0) hx hb dX2_begins_328 (by decide) ?_
                          refine lv_goto (tgt := 333) hx hb dX2_begins_329 (by decide) ?_
                          refine z_callv (As := [.int 0]) (rest := []) XX (cMM_ends l D O K 0 (mf_keep ((v).toInt32) 1 σ)) (cwV 1 hts gX2_begins_X2_ends rfl rfl rfl qX2_ends ⟨by decide, by decide⟩) (va_recv hK hP (ci := 2) (q0 := 0) rfl rfl) hK hP hD hS hA rfl hl.1 rfl (Nat.le_of_ble_eq_true rfl) dX2_begins_333 ⟨Nat.zero_le _, Nat.zero_le _⟩ (fun H locs hP hD hS => ?_)
                          refine lv_goto (tgt := 436) hx hb dX2_begins_336 (by decide) ?_
                          exact z_retv hx hb hr hlocks hK hP hD hS ((if_neg t22_0).trans ((if_neg t22_1).trans ((if_neg t22_2).trans ((if_neg t22_3).trans ((if_neg t22_4).trans ((if_neg t22_5).trans ((if_neg t22_6).trans ((if_neg t22_7).trans ((if_neg t22_8).trans ((if_pos t22_9).trans ((if_neg c309).trans ((if_neg c325).trans (rfl))))))))))))) dX2_begins_436
                    · by_cases t22_10 : ((m_so σ) h.toNatClampNeg) = 10
                      · refine lv_tableIn (off := 402) (tgt := 424) hx hb dX2_begins_22 (by rw [t22_10]; decide) (by rw [t22_10]; decide) (by rw [t22_10]; rfl) (by decide) ?_
                        refine lv_aload_n hx hb dX2_begins_424 rfl (lv_at hl 2 rfl) ?_
                        refine lv_iload_n hx hb dX2_begins_425 rfl (lv_at hl 3 rfl) ?_
                        refine lv_aload_n hx hb dX2_begins_426 rfl (lv_at hl 2 rfl) ?_
                        refine m_ga_8 hx hb hts inW hown hK hP k32 dX2_begins_427 ?_
                        refine lv_iload_n hx hb dX2_begins_430 rfl (lv_at hl 4 rfl) ?_
                        refine m_ld_fo (f := (m_fo σ)) (i := h) hx hb hK hP (rfl) (h1) dX2_begins_431 ?_
                        refine lv_lload_n hx hb dX2_begins_432 rfl (lv_at hl 5 rfl) ?_
                        refine z_callv (As := [.int ix, .int ((m_fo σ) h.toNatClampNeg), .long v]) (rest := []) XX (cMM_goOn l D O K ix ((m_fo σ) h.toNatClampNeg) v σ (h2) (h4)) (cwV 3 hts gX2_begins_X2_goOn rfl rfl rfl qX2_goOn ⟨by decide, by decide⟩) (va_recv hK hP (ci := 2) (q0 := 0) rfl rfl) hK hP hD hS hA rfl hl.1 rfl (Nat.le_of_ble_eq_true rfl) dX2_begins_433 ⟨Nat.zero_le _, Nat.zero_le _⟩ (fun H locs hP hD hS => ?_)
                        exact z_retv hx hb hr hlocks hK hP hD hS ((if_neg t22_0).trans ((if_neg t22_1).trans ((if_neg t22_2).trans ((if_neg t22_3).trans ((if_neg t22_4).trans ((if_neg t22_5).trans ((if_neg t22_6).trans ((if_neg t22_7).trans ((if_neg t22_8).trans ((if_neg t22_9).trans ((if_pos t22_10).trans (rfl)))))))))))) dX2_begins_436
                      · by_cases t22_11 : ((m_so σ) h.toNatClampNeg) = 11
                        · refine lv_tableIn (off := 317) (tgt := 339) hx hb dX2_begins_22 (by rw [t22_11]; decide) (by rw [t22_11]; decide) (by rw [t22_11]; rfl) (by decide) ?_
                          refine lv_aload_n hx hb dX2_begins_339 rfl (lv_at hl 2 rfl) ?_
                          refine lv_iload hx hb dX2_begins_340 (lv_at hl 1 rfl) ?_
                          refine lv_lload_n hx hb dX2_begins_342 rfl (lv_at hl 5 rfl) ?_
                          refine z_callv (As := [.int ((m_as σ) h.toNatClampNeg), .long v]) (rest := []) XX (cMM_keep l D O K ((m_as σ) h.toNatClampNeg) v σ ((h11 t22_11).1)) (cwV 2 hts gX2_begins_X2_keep rfl rfl rfl qX2_keep ⟨by decide, by decide⟩) (va_recv hK hP (ci := 2) (q0 := 0) rfl rfl) hK hP hD hS hA rfl hl.1 rfl (Nat.le_of_ble_eq_true rfl) dX2_begins_343 ⟨Nat.zero_le _, Nat.zero_le _⟩ (fun H locs hP hD hS => ?_)
                          refine lv_aload_n hx hb dX2_begins_346 rfl (lv_at hl 2 rfl) ?_
                          refine m_ga_8 hx hb hts inW hown hK hP k32 dX2_begins_347 ?_
                          refine lv_iload_n hx hb dX2_begins_350 rfl (lv_at hl 4 rfl) ?_
                          refine m_ld_fo (f := (m_fo (mf_keep ((m_as σ) h.toNatClampNeg) v σ))) (i := h) hx hb hK hP (rfl) (h1) dX2_begins_351 ?_
                          refine lv_if_ge (tgt := 363) hx hb dX2_begins_352 (by decide) (fun c352 => ?_) (fun c352 => ?_)
                          · refine lv_aload_n hx hb dX2_begins_363 rfl (lv_at hl 2 rfl) ?_
                            refine lv_iload_n hx hb dX2_begins_364 rfl (lv_at hl 3 rfl) ?_
                            refine lv_aload_n hx hb dX2_begins_365 rfl (lv_at hl 2 rfl) ?_
                            refine m_ga_8 hx hb hts inW hown hK hP k32 dX2_begins_366 ?_
                            refine lv_iload_n hx hb dX2_begins_369 rfl (lv_at hl 4 rfl) ?_
                            refine m_ld_fo (f := (m_fo (mf_keep ((m_as σ) h.toNatClampNeg) v σ))) (i := h) hx hb hK hP (rfl) (h1) dX2_begins_370 ?_
                            refine lv_aload_n hx hb dX2_begins_371 rfl (lv_at hl 2 rfl) ?_
                            refine m_ga_1 hx hb hts inW hown hK hP k7 dX2_begins_372 ?_
                            refine lv_iload hx hb dX2_begins_375 (lv_at hl 1 rfl) ?_
                            refine m_ld_su (f := (m_su (mf_keep ((m_as σ) h.toNatClampNeg) v σ))) (i := ((m_as σ) h.toNatClampNeg)) hx hb hK hP (rfl) ((h11 t22_11).1) dX2_begins_377 ?_
                            refine lv_aload_n hx hb dX2_begins_378 rfl (lv_at hl 2 rfl) ?_
                            refine m_ga_2 hx hb hts inW hown hK hP k13 dX2_begins_379 ?_
                            refine lv_iload hx hb dX2_begins_382 (lv_at hl 1 rfl) ?_
                            refine m_ld_co (f := (m_co (mf_keep ((m_as σ) h.toNatClampNeg) v σ))) (i := ((m_as σ) h.toNatClampNeg)) hx hb hK hP (rfl) ((h11 t22_11).1) dX2_begins_384 ?_
                            refine lv_i2l (v := (((m_co (mf_keep ((m_as σ) h.toNatClampNeg) v σ)) ((m_as σ) h.toNatClampNeg).toNatClampNeg)).toInt64) hx hb dX2_begins_385 rfl ?_
                            refine lv_ldiv hx hb dX2_begins_386 ((h11 t22_11).2) ?_
                            refine z_callv (As := [.int ix, .int ((m_fo (mf_keep ((m_as σ) h.toNatClampNeg) v σ)) h.toNatClampNeg), .long (((m_su (mf_keep ((m_as σ) h.toNatClampNeg) v σ)) ((m_as σ) h.toNatClampNeg).toNatClampNeg) / (((m_co (mf_keep ((m_as σ) h.toNatClampNeg) v σ)) ((m_as σ) h.toNatClampNeg).toNatClampNeg)).toInt64)]) (rest := []) XX (cMM_goOn l D O K ix ((m_fo (mf_keep ((m_as σ) h.toNatClampNeg) v σ)) h.toNatClampNeg) (((m_su (mf_keep ((m_as σ) h.toNatClampNeg) v σ)) ((m_as σ) h.toNatClampNeg).toNatClampNeg) / (((m_co (mf_keep ((m_as σ) h.toNatClampNeg) v σ)) ((m_as σ) h.toNatClampNeg).toNatClampNeg)).toInt64) (mf_keep ((m_as σ) h.toNatClampNeg) v σ) (h2) (by rw [mq_tp_keep]; exact h4)) (cwV 3 hts gX2_begins_X2_goOn rfl rfl rfl qX2_goOn ⟨by decide, by decide⟩) (va_recv hK hP (ci := 2) (q0 := 0) rfl rfl) hK hP hD hS hA rfl hl.1 rfl (Nat.le_of_ble_eq_true rfl) dX2_begins_387 ⟨Nat.zero_le _, Nat.zero_le _⟩ (fun H locs hP hD hS => ?_)
                            refine lv_goto (tgt := 436) hx hb dX2_begins_390 (by decide) ?_
                            exact z_retv hx hb hr hlocks hK hP hD hS ((if_neg t22_0).trans ((if_neg t22_1).trans ((if_neg t22_2).trans ((if_neg t22_3).trans ((if_neg t22_4).trans ((if_neg t22_5).trans ((if_neg t22_6).trans ((if_neg t22_7).trans ((if_neg t22_8).trans ((if_neg t22_9).trans ((if_neg t22_10).trans ((if_pos t22_11).trans ((if_pos c352).trans (rfl)))))))))))))) dX2_begins_436
                          · refine lv_aload_n hx hb dX2_begins_355 rfl (lv_at hl 2 rfl) ?_
                            refine lv_iconst (v := 0) hx hb dX2_begins_356 (by decide) ?_
                            refine z_callv (As := [.int 0]) (rest := []) XX (cMM_ends l D O K 0 (mf_keep ((m_as σ) h.toNatClampNeg) v σ)) (cwV 1 hts gX2_begins_X2_ends rfl rfl rfl qX2_ends ⟨by decide, by decide⟩) (va_recv hK hP (ci := 2) (q0 := 0) rfl rfl) hK hP hD hS hA rfl hl.1 rfl (Nat.le_of_ble_eq_true rfl) dX2_begins_357 ⟨Nat.zero_le _, Nat.zero_le _⟩ (fun H locs hP hD hS => ?_)
                            refine lv_goto (tgt := 436) hx hb dX2_begins_360 (by decide) ?_
                            exact z_retv hx hb hr hlocks hK hP hD hS ((if_neg t22_0).trans ((if_neg t22_1).trans ((if_neg t22_2).trans ((if_neg t22_3).trans ((if_neg t22_4).trans ((if_neg t22_5).trans ((if_neg t22_6).trans ((if_neg t22_7).trans ((if_neg t22_8).trans ((if_neg t22_9).trans ((if_neg t22_10).trans ((if_pos t22_11).trans ((if_neg c352).trans (rfl)))))))))))))) dX2_begins_436
                        · by_cases t22_12 : ((m_so σ) h.toNatClampNeg) = 12
                          · refine lv_tableIn (off := 371) (tgt := 393) hx hb dX2_begins_22 (by rw [t22_12]; decide) (by rw [t22_12]; decide) (by rw [t22_12]; rfl) (by decide) ?_
                            refine lv_aload_n hx hb dX2_begins_393 rfl (lv_at hl 2 rfl) ?_
                            refine lv_iconst (v := 1) hx hb dX2_begins_394 (by decide) ?_
                            refine lv_lload_n hx hb dX2_begins_395 rfl (lv_at hl 5 rfl) ?_
                            refine z_callv (As := [.int 1, .long v]) (rest := []) XX (cMM_keep l D O K 1 v σ (z_v16)) (cwV 2 hts gX2_begins_X2_keep rfl rfl rfl qX2_keep ⟨by decide, by decide⟩) (va_recv hK hP (ci := 2) (q0 := 0) rfl rfl) hK hP hD hS hA rfl hl.1 rfl (Nat.le_of_ble_eq_true rfl) dX2_begins_396 ⟨Nat.zero_le _, Nat.zero_le _⟩ (fun H locs hP hD hS => ?_)
                            refine lv_lload_n hx hb dX2_begins_399 rfl (lv_at hl 5 rfl) ?_
                            refine lv_lconst (v := 1) hx hb dX2_begins_400 (by decide) ?_
                            refine W.lcmp hx hb dX2_begins_401 ?_
                            refine lv_if_le (tgt := 416) hx hb dX2_begins_402 (by decide) (fun c402 => ?_) (fun c402 => ?_)
                            · refine lv_aload_n hx hb dX2_begins_416 rfl (lv_at hl 2 rfl) ?_
                              refine lv_iconst (v := 0) hx hb dX2_begins_417 (by decide) ?_
                              refine z_callv (As := [.int 0]) (rest := []) XX (cMM_ends l D O K 0 (mf_keep 1 v σ)) (cwV 1 hts gX2_begins_X2_ends rfl rfl rfl qX2_ends ⟨by decide, by decide⟩) (va_recv hK hP (ci := 2) (q0 := 0) rfl rfl) hK hP hD hS hA rfl hl.1 rfl (Nat.le_of_ble_eq_true rfl) dX2_begins_418 ⟨Nat.zero_le _, Nat.zero_le _⟩ (fun H locs hP hD hS => ?_)
                              refine lv_goto (tgt := 436) hx hb dX2_begins_421 (by decide) ?_
                              exact z_retv hx hb hr hlocks hK hP hD hS ((if_neg t22_0).trans ((if_neg t22_1).trans ((if_neg t22_2).trans ((if_neg t22_3).trans ((if_neg t22_4).trans ((if_neg t22_5).trans ((if_neg t22_6).trans ((if_neg t22_7).trans ((if_neg t22_8).trans ((if_neg t22_9).trans ((if_neg t22_10).trans ((if_neg t22_11).trans ((if_pos t22_12).trans ((if_pos c402).trans (rfl))))))))))))))) dX2_begins_436
                            · refine lv_aload_n hx hb dX2_begins_405 rfl (lv_at hl 2 rfl) ?_
                              refine lv_iconst (v := 0) hx hb dX2_begins_406 (by decide) ?_
                              refine lv_lload_n hx hb dX2_begins_407 rfl (lv_at hl 5 rfl) ?_
                              refine lv_lconst (v := 1) hx hb dX2_begins_408 (by decide) ?_
                              refine lv_lsub hx hb dX2_begins_409 ?_
                              refine z_callv (As := [.int 0, .long (v - 1)]) (rest := []) XX (cMM_sends l D O K 0 (v - 1) (mf_keep 1 v σ) (by rw [mq_sz_keep]; exact h5)) (cwV 2 hts gX2_begins_X2_sends rfl rfl rfl qX2_sends ⟨by decide, by decide⟩) (va_recv hK hP (ci := 2) (q0 := 0) rfl rfl) hK hP hD hS hA rfl hl.1 rfl (Nat.le_of_ble_eq_true rfl) dX2_begins_410 ⟨Nat.zero_le _, Nat.zero_le _⟩ (fun H locs hP hD hS => ?_)
                              refine lv_goto (tgt := 436) hx hb dX2_begins_413 (by decide) ?_
                              exact z_retv hx hb hr hlocks hK hP hD hS ((if_neg t22_0).trans ((if_neg t22_1).trans ((if_neg t22_2).trans ((if_neg t22_3).trans ((if_neg t22_4).trans ((if_neg t22_5).trans ((if_neg t22_6).trans ((if_neg t22_7).trans ((if_neg t22_8).trans ((if_neg t22_9).trans ((if_neg t22_10).trans ((if_neg t22_11).trans ((if_pos t22_12).trans ((if_neg c402).trans (rfl))))))))))))))) dX2_begins_436
                          · refine lv_tableOut (tgt := 424) hx hb dX2_begins_22 (z_out 12 (by decide) (fun k hk => match k, hk with | 0, _ => t22_0 | 1, _ => t22_1 | 2, _ => t22_2 | 3, _ => t22_3 | 4, _ => t22_4 | 5, _ => t22_5 | 6, _ => t22_6 | 7, _ => t22_7 | 8, _ => t22_8 | 9, _ => t22_9 | 10, _ => t22_10 | 11, _ => t22_11 | 12, _ => t22_12 | (k + 13), hk => absurd hk (by omega))) (by decide) ?_
                            refine lv_aload_n hx hb dX2_begins_424 rfl (lv_at hl 2 rfl) ?_
                            refine lv_iload_n hx hb dX2_begins_425 rfl (lv_at hl 3 rfl) ?_
                            refine lv_aload_n hx hb dX2_begins_426 rfl (lv_at hl 2 rfl) ?_
                            refine m_ga_8 hx hb hts inW hown hK hP k32 dX2_begins_427 ?_
                            refine lv_iload_n hx hb dX2_begins_430 rfl (lv_at hl 4 rfl) ?_
                            refine m_ld_fo (f := (m_fo σ)) (i := h) hx hb hK hP (rfl) (h1) dX2_begins_431 ?_
                            refine lv_lload_n hx hb dX2_begins_432 rfl (lv_at hl 5 rfl) ?_
                            refine z_callv (As := [.int ix, .int ((m_fo σ) h.toNatClampNeg), .long v]) (rest := []) XX (cMM_goOn l D O K ix ((m_fo σ) h.toNatClampNeg) v σ (h2) (h4)) (cwV 3 hts gX2_begins_X2_goOn rfl rfl rfl qX2_goOn ⟨by decide, by decide⟩) (va_recv hK hP (ci := 2) (q0 := 0) rfl rfl) hK hP hD hS hA rfl hl.1 rfl (Nat.le_of_ble_eq_true rfl) dX2_begins_433 ⟨Nat.zero_le _, Nat.zero_le _⟩ (fun H locs hP hD hS => ?_)
                            exact z_retv hx hb hr hlocks hK hP hD hS ((if_neg t22_0).trans ((if_neg t22_1).trans ((if_neg t22_2).trans ((if_neg t22_3).trans ((if_neg t22_4).trans ((if_neg t22_5).trans ((if_neg t22_6).trans ((if_neg t22_7).trans ((if_neg t22_8).trans ((if_neg t22_9).trans ((if_neg t22_10).trans ((if_neg t22_11).trans ((if_neg t22_12).trans (rfl)))))))))))))) dX2_begins_436
