noncomputable def mf_handle  (k : Int32) (sort : Int32) (a : Int32) (b : Int32) (w : Int64) (σ : SM) : Int32 × SM := if (mf_in sort 0 11) = 0 then ((-3), σ) else (if (mf_isKind k) = 0 then ((-2), σ) else (if (mf_areKnown sort a b) = 0 then ((-2), σ) else (if sort = 5 then (if (mf_in b 0 100) = 0 then ((-3), σ) else (if (m_many σ) = 202 then ((-4), σ) else (if sort = 2 then (if ((upd (m_fo σ) ((m_many σ).toNatClampNeg) ((m_st σ) k.toNatClampNeg)) (m_many σ).toNatClampNeg) < 0 then (0, ms_many (ms_st (ms_le (ms_ot (ms_fo (ms_cs (ms_bs (ms_as (ms_ki (ms_so σ (upd (m_so σ) ((m_many σ).toNatClampNeg) sort)) (upd (m_ki σ) ((m_many σ).toNatClampNeg) k)) (upd (m_as σ) ((m_many σ).toNatClampNeg) a)) (upd (m_bs σ) ((m_many σ).toNatClampNeg) b)) (vp_updL (m_cs σ) ((m_many σ).toNatClampNeg) w)) (upd (m_fo σ) ((m_many σ).toNatClampNeg) ((m_st σ) k.toNatClampNeg))) (upd (m_ot σ) ((m_many σ).toNatClampNeg) ((m_st σ) a.toNatClampNeg))) (upd (m_le σ) ((m_many σ).toNatClampNeg) 0)) (upd (m_st σ) k.toNatClampNeg (m_many σ))) ((m_many σ) + 1)) else (1, ms_many (ms_st (ms_le (ms_ot (ms_fo (ms_cs (ms_bs (ms_as (ms_ki (ms_so σ (upd (m_so σ) ((m_many σ).toNatClampNeg) sort)) (upd (m_ki σ) ((m_many σ).toNatClampNeg) k)) (upd (m_as σ) ((m_many σ).toNatClampNeg) a)) (upd (m_bs σ) ((m_many σ).toNatClampNeg) b)) (vp_updL (m_cs σ) ((m_many σ).toNatClampNeg) w)) (upd (m_fo σ) ((m_many σ).toNatClampNeg) ((m_st σ) k.toNatClampNeg))) (upd (m_ot σ) ((m_many σ).toNatClampNeg) ((m_st σ) a.toNatClampNeg))) (upd (m_le σ) ((m_many σ).toNatClampNeg) 0)) (upd (m_st σ) k.toNatClampNeg (m_many σ))) ((m_many σ) + 1))) else (if sort = 7 then (if ((upd (m_fo σ) ((m_many σ).toNatClampNeg) ((m_st σ) k.toNatClampNeg)) (m_many σ).toNatClampNeg) < 0 then (0, ms_many (ms_st (ms_le (ms_ot (ms_fo (ms_cs (ms_bs (ms_as (ms_ki (ms_so σ (upd (m_so σ) ((m_many σ).toNatClampNeg) sort)) (upd (m_ki σ) ((m_many σ).toNatClampNeg) k)) (upd (m_as σ) ((m_many σ).toNatClampNeg) a)) (upd (m_bs σ) ((m_many σ).toNatClampNeg) b)) (vp_updL (m_cs σ) ((m_many σ).toNatClampNeg) w)) (upd (m_fo σ) ((m_many σ).toNatClampNeg) ((m_st σ) k.toNatClampNeg))) (upd (m_ot σ) ((m_many σ).toNatClampNeg) ((m_st σ) a.toNatClampNeg))) (upd (m_le σ) ((m_many σ).toNatClampNeg) 0)) (upd (m_st σ) k.toNatClampNeg (m_many σ))) ((m_many σ) + 1)) else (1, ms_many (ms_st (ms_le (ms_ot (ms_fo (ms_cs (ms_bs (ms_as (ms_ki (ms_so σ (upd (m_so σ) ((m_many σ).toNatClampNeg) sort)) (upd (m_ki σ) ((m_many σ).toNatClampNeg) k)) (upd (m_as σ) ((m_many σ).toNatClampNeg) a)) (upd (m_bs σ) ((m_many σ).toNatClampNeg) b)) (vp_updL (m_cs σ) ((m_many σ).toNatClampNeg) w)) (upd (m_fo σ) ((m_many σ).toNatClampNeg) ((m_st σ) k.toNatClampNeg))) (upd (m_ot σ) ((m_many σ).toNatClampNeg) ((m_st σ) a.toNatClampNeg))) (upd (m_le σ) ((m_many σ).toNatClampNeg) 0)) (upd (m_st σ) k.toNatClampNeg (m_many σ))) ((m_many σ) + 1))) else (if ((upd (m_fo σ) ((m_many σ).toNatClampNeg) ((m_st σ) k.toNatClampNeg)) (m_many σ).toNatClampNeg) < 0 then (0, ms_many (ms_st (ms_le (ms_ot (ms_fo (ms_cs (ms_bs (ms_as (ms_ki (ms_so σ (upd (m_so σ) ((m_many σ).toNatClampNeg) sort)) (upd (m_ki σ) ((m_many σ).toNatClampNeg) k)) (upd (m_as σ) ((m_many σ).toNatClampNeg) a)) (upd (m_bs σ) ((m_many σ).toNatClampNeg) b)) (vp_updL (m_cs σ) ((m_many σ).toNatClampNeg) w)) (upd (m_fo σ) ((m_many σ).toNatClampNeg) ((m_st σ) k.toNatClampNeg))) (upd (m_ot σ) ((m_many σ).toNatClampNeg) (-1))) (upd (m_le σ) ((m_many σ).toNatClampNeg) 0)) (upd (m_st σ) k.toNatClampNeg (m_many σ))) ((m_many σ) + 1)) else (1, ms_many (ms_st (ms_le (ms_ot (ms_fo (ms_cs (ms_bs (ms_as (ms_ki (ms_so σ (upd (m_so σ) ((m_many σ).toNatClampNeg) sort)) (upd (m_ki σ) ((m_many σ).toNatClampNeg) k)) (upd (m_as σ) ((m_many σ).toNatClampNeg) a)) (upd (m_bs σ) ((m_many σ).toNatClampNeg) b)) (vp_updL (m_cs σ) ((m_many σ).toNatClampNeg) w)) (upd (m_fo σ) ((m_many σ).toNatClampNeg) ((m_st σ) k.toNatClampNeg))) (upd (m_ot σ) ((m_many σ).toNatClampNeg) (-1))) (upd (m_le σ) ((m_many σ).toNatClampNeg) 0)) (upd (m_st σ) k.toNatClampNeg (m_many σ))) ((m_many σ) + 1))))))) else (if (m_many σ) = 202 then ((-4), σ) else (if sort = 2 then (if ((upd (m_fo σ) ((m_many σ).toNatClampNeg) ((m_st σ) k.toNatClampNeg)) (m_many σ).toNatClampNeg) < 0 then (0, ms_many (ms_st (ms_le (ms_ot (ms_fo (ms_cs (ms_bs (ms_as (ms_ki (ms_so σ (upd (m_so σ) ((m_many σ).toNatClampNeg) sort)) (upd (m_ki σ) ((m_many σ).toNatClampNeg) k)) (upd (m_as σ) ((m_many σ).toNatClampNeg) a)) (upd (m_bs σ) ((m_many σ).toNatClampNeg) b)) (vp_updL (m_cs σ) ((m_many σ).toNatClampNeg) w)) (upd (m_fo σ) ((m_many σ).toNatClampNeg) ((m_st σ) k.toNatClampNeg))) (upd (m_ot σ) ((m_many σ).toNatClampNeg) ((m_st σ) a.toNatClampNeg))) (upd (m_le σ) ((m_many σ).toNatClampNeg) 0)) (upd (m_st σ) k.toNatClampNeg (m_many σ))) ((m_many σ) + 1)) else (1, ms_many (ms_st (ms_le (ms_ot (ms_fo (ms_cs (ms_bs (ms_as (ms_ki (ms_so σ (upd (m_so σ) ((m_many σ).toNatClampNeg) sort)) (upd (m_ki σ) ((m_many σ).toNatClampNeg) k)) (upd (m_as σ) ((m_many σ).toNatClampNeg) a)) (upd (m_bs σ) ((m_many σ).toNatClampNeg) b)) (vp_updL (m_cs σ) ((m_many σ).toNatClampNeg) w)) (upd (m_fo σ) ((m_many σ).toNatClampNeg) ((m_st σ) k.toNatClampNeg))) (upd (m_ot σ) ((m_many σ).toNatClampNeg) ((m_st σ) a.toNatClampNeg))) (upd (m_le σ) ((m_many σ).toNatClampNeg) 0)) (upd (m_st σ) k.toNatClampNeg (m_many σ))) ((m_many σ) + 1))) else (if sort = 7 then (if ((upd (m_fo σ) ((m_many σ).toNatClampNeg) ((m_st σ) k.toNatClampNeg)) (m_many σ).toNatClampNeg) < 0 then (0, ms_many (ms_st (ms_le (ms_ot (ms_fo (ms_cs (ms_bs (ms_as (ms_ki (ms_so σ (upd (m_so σ) ((m_many σ).toNatClampNeg) sort)) (upd (m_ki σ) ((m_many σ).toNatClampNeg) k)) (upd (m_as σ) ((m_many σ).toNatClampNeg) a)) (upd (m_bs σ) ((m_many σ).toNatClampNeg) b)) (vp_updL (m_cs σ) ((m_many σ).toNatClampNeg) w)) (upd (m_fo σ) ((m_many σ).toNatClampNeg) ((m_st σ) k.toNatClampNeg))) (upd (m_ot σ) ((m_many σ).toNatClampNeg) ((m_st σ) a.toNatClampNeg))) (upd (m_le σ) ((m_many σ).toNatClampNeg) 0)) (upd (m_st σ) k.toNatClampNeg (m_many σ))) ((m_many σ) + 1)) else (1, ms_many (ms_st (ms_le (ms_ot (ms_fo (ms_cs (ms_bs (ms_as (ms_ki (ms_so σ (upd (m_so σ) ((m_many σ).toNatClampNeg) sort)) (upd (m_ki σ) ((m_many σ).toNatClampNeg) k)) (upd (m_as σ) ((m_many σ).toNatClampNeg) a)) (upd (m_bs σ) ((m_many σ).toNatClampNeg) b)) (vp_updL (m_cs σ) ((m_many σ).toNatClampNeg) w)) (upd (m_fo σ) ((m_many σ).toNatClampNeg) ((m_st σ) k.toNatClampNeg))) (upd (m_ot σ) ((m_many σ).toNatClampNeg) ((m_st σ) a.toNatClampNeg))) (upd (m_le σ) ((m_many σ).toNatClampNeg) 0)) (upd (m_st σ) k.toNatClampNeg (m_many σ))) ((m_many σ) + 1))) else (if ((upd (m_fo σ) ((m_many σ).toNatClampNeg) ((m_st σ) k.toNatClampNeg)) (m_many σ).toNatClampNeg) < 0 then (0, ms_many (ms_st (ms_le (ms_ot (ms_fo (ms_cs (ms_bs (ms_as (ms_ki (ms_so σ (upd (m_so σ) ((m_many σ).toNatClampNeg) sort)) (upd (m_ki σ) ((m_many σ).toNatClampNeg) k)) (upd (m_as σ) ((m_many σ).toNatClampNeg) a)) (upd (m_bs σ) ((m_many σ).toNatClampNeg) b)) (vp_updL (m_cs σ) ((m_many σ).toNatClampNeg) w)) (upd (m_fo σ) ((m_many σ).toNatClampNeg) ((m_st σ) k.toNatClampNeg))) (upd (m_ot σ) ((m_many σ).toNatClampNeg) (-1))) (upd (m_le σ) ((m_many σ).toNatClampNeg) 0)) (upd (m_st σ) k.toNatClampNeg (m_many σ))) ((m_many σ) + 1)) else (1, ms_many (ms_st (ms_le (ms_ot (ms_fo (ms_cs (ms_bs (ms_as (ms_ki (ms_so σ (upd (m_so σ) ((m_many σ).toNatClampNeg) sort)) (upd (m_ki σ) ((m_many σ).toNatClampNeg) k)) (upd (m_as σ) ((m_many σ).toNatClampNeg) a)) (upd (m_bs σ) ((m_many σ).toNatClampNeg) b)) (vp_updL (m_cs σ) ((m_many σ).toNatClampNeg) w)) (upd (m_fo σ) ((m_many σ).toNatClampNeg) ((m_st σ) k.toNatClampNeg))) (upd (m_ot σ) ((m_many σ).toNatClampNeg) (-1))) (upd (m_le σ) ((m_many σ).toNatClampNeg) 0)) (upd (m_st σ) k.toNatClampNeg (m_many σ))) ((m_many σ) + 1)))))))))
set_option maxRecDepth 100000 in
set_option maxHeartbeats 4000000 in
theorem cMM_handle (l : Launch) (D : va_G) (O : Nat → Nat) (K : Nat → ClassId) (k : Int32) (sort : Int32) (a : Int32) (b : Int32) (w : Int64) (σ : SM) (hm : ¬ m_many σ = 202 → vp_in (m_many σ) 202) : cI l yX2_handle wsX2_handle { frames := 3, cells := 0, slots := 0, locals := 300 } 0 0 D (mT K) (mW O K) σ [.ref (O 0), .int k, .int sort, .int a, .int b, .long w] (mf_handle k sort a b w σ) := by
  intro sz
  refine z_start (cc := cX2_handle) (maxL := 8) (ret := (some .int)) (Qc := fun A => va_Qi (fun r9 u9 => r9 = (mf_handle k sort a b w σ).1 ∧ u9 = (mf_handle k sort a b w σ).2) (zB D (mT K) (mW O K) A) A) sz (by decide) rfl (Nat.le_of_ble_eq_true rfl) ?_
  intro p e s m below meth c A X hA hK hP hD hS ls hl
  obtain ⟨hx, hb, hr, hml, hts, hown, hlocks, hnm⟩ := X
  have hown : s.vm.findClass RX2 = some m.cls := hown
  have hl : lv_has ls 8 [(0, .ref (O 0)), (1, .int k), (2, .int sort), (3, .int a), (4, .int b), (5, .long w)] := hl
  have inW : ∀ w ∈ wsX20, w ∈ wsX2_handle := fun w h => List.mem_cons_of_mem _ (List.mem_append_right _ h)
  have XX : CallFix p m c cX2_handle 8 s _ wsX2_handle RX2 := ⟨hx, hb, hml, hown, hts⟩
  have k68 := hts (.fieldLink RX2 68 "MailRoomModel" "many" "I") (List.mem_of_getElem? (i := 1) rfl)
  have k17 := hts (.fieldLink RX2 17 "MailRoomModel" "sorts" "[I") (List.mem_of_getElem? (i := 2) rfl)
  have k20 := hts (.fieldLink RX2 20 "MailRoomModel" "kinds" "[I") (List.mem_of_getElem? (i := 3) rfl)
  have k23 := hts (.fieldLink RX2 23 "MailRoomModel" "as" "[I") (List.mem_of_getElem? (i := 4) rfl)
  have k26 := hts (.fieldLink RX2 26 "MailRoomModel" "bs" "[I") (List.mem_of_getElem? (i := 5) rfl)
  have k29 := hts (.fieldLink RX2 29 "MailRoomModel" "cs" "[J") (List.mem_of_getElem? (i := 6) rfl)
  have k32 := hts (.fieldLink RX2 32 "MailRoomModel" "formers" "[I") (List.mem_of_getElem? (i := 7) rfl)
  have k41 := hts (.fieldLink RX2 41 "MailRoomModel" "stands" "[I") (List.mem_of_getElem? (i := 8) rfl)
  have k35 := hts (.fieldLink RX2 35 "MailRoomModel" "others" "[I") (List.mem_of_getElem? (i := 9) rfl)
  have k38 := hts (.fieldLink RX2 38 "MailRoomModel" "lets" "[I") (List.mem_of_getElem? (i := 10) rfl)
  refine lv_iload_n hx hb dX2_handle_0 rfl (lv_at hl 2 rfl) ?_
  refine lv_iconst (v := 0) hx hb dX2_handle_1 (by decide) ?_
  refine lv_bipush (v := 11) hx hb dX2_handle_2 (by decide) ?_
  refine z_calls (As := [.int sort, .int 0, .int 11]) (rest := []) XX (cMM_in l sort 0 11) (va_cwS 3 hts gX2_handle_X2_in rfl rfl rfl qX2_in ⟨by decide, by decide⟩) rfl hl.1 rfl (Nat.le_of_ble_eq_true rfl) dX2_handle_4 ⟨Nat.zero_le _, Nat.zero_le _⟩ ?_
  refine lv_if_ne (tgt := 13) hx hb dX2_handle_7 (by decide) (fun c7 => ?_) (fun c7 => ?_)
  · refine lv_iload_n hx hb dX2_handle_13 rfl (lv_at hl 1 rfl) ?_
    refine z_calls (As := [.int k]) (rest := []) XX (cMM_isKind l k) (va_cwS 1 hts gX2_handle_X2_isKind rfl rfl rfl qX2_isKind ⟨by decide, by decide⟩) rfl hl.1 rfl (Nat.le_of_ble_eq_true rfl) dX2_handle_14 ⟨Nat.zero_le _, Nat.zero_le _⟩ ?_
    refine lv_if_eq (tgt := 30) hx hb dX2_handle_17 (by decide) (fun c17 => ?_) (fun c17 => ?_)
    · refine lv_bipush (v := (-2)) hx hb dX2_handle_30 (by decide) ?_
      exact z_reti hx hb hr hlocks rfl hK hP hD hS ((if_neg c7).trans ((if_pos c17).trans (rfl))) dX2_handle_32
    · refine lv_iload_n hx hb dX2_handle_20 rfl (lv_at hl 2 rfl) ?_
      refine lv_iload_n hx hb dX2_handle_21 rfl (lv_at hl 3 rfl) ?_
      refine lv_iload hx hb dX2_handle_22 (lv_at hl 4 rfl) ?_
      refine z_calls (As := [.int sort, .int a, .int b]) (rest := []) XX (cMM_areKnown l sort a b) (va_cwS 3 hts gX2_handle_X2_areKnown rfl rfl rfl qX2_areKnown ⟨by decide, by decide⟩) rfl hl.1 rfl (Nat.le_of_ble_eq_true rfl) dX2_handle_24 ⟨Nat.zero_le _, Nat.zero_le _⟩ ?_
      refine lv_if_ne (tgt := 33) hx hb dX2_handle_27 (by decide) (fun c27 => ?_) (fun c27 => ?_)
      · refine lv_iload_n hx hb dX2_handle_33 rfl (lv_at hl 2 rfl) ?_
        refine lv_iconst (v := 5) hx hb dX2_handle_34 (by decide) ?_
        refine lv_icmp_ne (tgt := 52) hx hb dX2_handle_35 (by decide) (fun c35 => ?_) (fun c35 => ?_)
        · refine lv_aload_n hx hb dX2_handle_52 rfl (lv_at hl 0 rfl) ?_
          refine m_gi_many (v := (m_many σ)) hx hb hts inW hown hK hP (rfl) k68 dX2_handle_53 ?_
          refine lv_sipush (v := 202) hx hb dX2_handle_56 (by decide) ?_
          refine lv_icmp_ne (tgt := 65) hx hb dX2_handle_59 (by decide) (fun c59 => ?_) (fun c59 => ?_)
          · refine lv_aload_n hx hb dX2_handle_65 rfl (lv_at hl 0 rfl) ?_
            refine m_gi_many (v := (m_many σ)) hx hb hts inW hown hK hP (rfl) k68 dX2_handle_66 ?_
            refine lv_istore (lv' := [(7, .int (m_many σ)), (0, .ref (O 0)), (1, .int k), (2, .int sort), (3, .int a), (4, .int b), (5, .long w)]) hx hb dX2_handle_69 hl (by decide) rfl (fun ls hl => ?_)
            refine lv_aload_n hx hb dX2_handle_71 rfl (lv_at hl 1 rfl) ?_
            refine m_ga_3 hx hb hts inW hown hK hP k17 dX2_handle_72 ?_
            refine lv_iload hx hb dX2_handle_75 (lv_at hl 0 rfl) ?_
            refine lv_iload_n hx hb dX2_handle_77 rfl (lv_at hl 3 rfl) ?_
            refine m_st_so (f := (m_so σ)) (i := (m_many σ)) hx hb hK hP hD hS (rfl) (hm c59) dX2_handle_78 (fun H locs hP hD hS => ?_)
            refine lv_aload_n hx hb dX2_handle_79 rfl (lv_at hl 1 rfl) ?_
            refine m_ga_4 hx hb hts inW hown hK hP k20 dX2_handle_80 ?_
            refine lv_iload hx hb dX2_handle_83 (lv_at hl 0 rfl) ?_
            refine lv_iload_n hx hb dX2_handle_85 rfl (lv_at hl 2 rfl) ?_
            refine m_st_ki (f := (m_ki σ)) (i := (m_many σ)) hx hb hK hP hD hS (mr_ki_so _ _) (hm c59) dX2_handle_86 (fun H locs hP hD hS => ?_)
            refine lv_aload_n hx hb dX2_handle_87 rfl (lv_at hl 1 rfl) ?_
            refine m_ga_5 hx hb hts inW hown hK hP k23 dX2_handle_88 ?_
            refine lv_iload hx hb dX2_handle_91 (lv_at hl 0 rfl) ?_
            refine lv_iload_n hx hb dX2_handle_93 rfl (lv_at hl 4 rfl) ?_
            refine m_st_as (f := (m_as σ)) (i := (m_many σ)) hx hb hK hP hD hS ((mr_as_ki _ _).trans (mr_as_so _ _)) (hm c59) dX2_handle_94 (fun H locs hP hD hS => ?_)
            refine lv_aload_n hx hb dX2_handle_95 rfl (lv_at hl 1 rfl) ?_
            refine m_ga_6 hx hb hts inW hown hK hP k26 dX2_handle_96 ?_
            refine lv_iload hx hb dX2_handle_99 (lv_at hl 0 rfl) ?_
            refine lv_iload hx hb dX2_handle_101 (lv_at hl 5 rfl) ?_
            refine m_st_bs (f := (m_bs σ)) (i := (m_many σ)) hx hb hK hP hD hS ((mr_bs_as _ _).trans ((mr_bs_ki _ _).trans (mr_bs_so _ _))) (hm c59) dX2_handle_103 (fun H locs hP hD hS => ?_)
            refine lv_aload_n hx hb dX2_handle_104 rfl (lv_at hl 1 rfl) ?_
            refine m_ga_7 hx hb hts inW hown hK hP k29 dX2_handle_105 ?_
            refine lv_iload hx hb dX2_handle_108 (lv_at hl 0 rfl) ?_
            refine lv_lload hx hb dX2_handle_110 (lv_at hl 6 rfl) ?_
            refine m_st_cs (f := (m_cs σ)) (i := (m_many σ)) hx hb hK hP hD hS ((mr_cs_bs _ _).trans ((mr_cs_as _ _).trans ((mr_cs_ki _ _).trans (mr_cs_so _ _)))) (hm c59) dX2_handle_112 (fun H locs hP hD hS => ?_)
            refine lv_aload_n hx hb dX2_handle_113 rfl (lv_at hl 1 rfl) ?_
            refine m_ga_8 hx hb hts inW hown hK hP k32 dX2_handle_114 ?_
            refine lv_iload hx hb dX2_handle_117 (lv_at hl 0 rfl) ?_
            refine lv_aload_n hx hb dX2_handle_119 rfl (lv_at hl 1 rfl) ?_
            refine m_ga_11 hx hb hts inW hown hK hP k41 dX2_handle_120 ?_
            refine lv_iload_n hx hb dX2_handle_123 rfl (lv_at hl 2 rfl) ?_
            refine m_ld_st (f := (m_st σ)) (i := k) hx hb hK hP ((mr_st_cs _ _).trans ((mr_st_bs _ _).trans ((mr_st_as _ _).trans ((mr_st_ki _ _).trans (mr_st_so _ _))))) (mkind_in c17) dX2_handle_124 ?_
            refine m_st_fo (f := (m_fo σ)) (i := (m_many σ)) hx hb hK hP hD hS ((mr_fo_cs _ _).trans ((mr_fo_bs _ _).trans ((mr_fo_as _ _).trans ((mr_fo_ki _ _).trans (mr_fo_so _ _))))) (hm c59) dX2_handle_125 (fun H locs hP hD hS => ?_)
            refine lv_aload_n hx hb dX2_handle_126 rfl (lv_at hl 1 rfl) ?_
            refine m_ga_9 hx hb hts inW hown hK hP k35 dX2_handle_127 ?_
            refine lv_iload hx hb dX2_handle_130 (lv_at hl 0 rfl) ?_
            refine lv_iload_n hx hb dX2_handle_132 rfl (lv_at hl 3 rfl) ?_
            refine lv_iconst (v := 2) hx hb dX2_handle_133 (by decide) ?_
            refine lv_icmp_eq (tgt := 143) hx hb dX2_handle_134 (by decide) (fun c134 => ?_) (fun c134 => ?_)
            · refine lv_aload_n hx hb dX2_handle_143 rfl (lv_at hl 1 rfl) ?_
              refine m_ga_11 hx hb hts inW hown hK hP k41 dX2_handle_144 ?_
              refine lv_iload_n hx hb dX2_handle_147 rfl (lv_at hl 4 rfl) ?_
              refine m_ld_st (f := (m_st σ)) (i := a) hx hb hK hP ((mr_st_fo _ _).trans ((mr_st_cs _ _).trans ((mr_st_bs _ _).trans ((mr_st_as _ _).trans ((mr_st_ki _ _).trans (mr_st_so _ _)))))) (mak_in c27 (by first | exact Or.inl c134 | exact Or.inr c140)) dX2_handle_148 ?_
              refine lv_goto (tgt := 153) hx hb dX2_handle_149 (by decide) ?_
              refine m_st_ot (f := (m_ot σ)) (i := (m_many σ)) hx hb hK hP hD hS ((mr_ot_fo _ _).trans ((mr_ot_cs _ _).trans ((mr_ot_bs _ _).trans ((mr_ot_as _ _).trans ((mr_ot_ki _ _).trans (mr_ot_so _ _)))))) (hm c59) dX2_handle_153 (fun H locs hP hD hS => ?_)
              refine lv_aload_n hx hb dX2_handle_154 rfl (lv_at hl 1 rfl) ?_
              refine m_ga_10 hx hb hts inW hown hK hP k38 dX2_handle_155 ?_
              refine lv_iload hx hb dX2_handle_158 (lv_at hl 0 rfl) ?_
              refine lv_iconst (v := 0) hx hb dX2_handle_160 (by decide) ?_
              refine m_st_le (f := (m_le σ)) (i := (m_many σ)) hx hb hK hP hD hS ((mr_le_ot _ _).trans ((mr_le_fo _ _).trans ((mr_le_cs _ _).trans ((mr_le_bs _ _).trans ((mr_le_as _ _).trans ((mr_le_ki _ _).trans (mr_le_so _ _))))))) (hm c59) dX2_handle_161 (fun H locs hP hD hS => ?_)
              refine lv_aload_n hx hb dX2_handle_162 rfl (lv_at hl 1 rfl) ?_
              refine m_ga_11 hx hb hts inW hown hK hP k41 dX2_handle_163 ?_
              refine lv_iload_n hx hb dX2_handle_166 rfl (lv_at hl 2 rfl) ?_
              refine lv_iload hx hb dX2_handle_167 (lv_at hl 0 rfl) ?_
              refine m_st_st (f := (m_st σ)) (i := k) hx hb hK hP hD hS ((mr_st_le _ _).trans ((mr_st_ot _ _).trans ((mr_st_fo _ _).trans ((mr_st_cs _ _).trans ((mr_st_bs _ _).trans ((mr_st_as _ _).trans ((mr_st_ki _ _).trans (mr_st_so _ _)))))))) (mkind_in c17) dX2_handle_169 (fun H locs hP hD hS => ?_)
              refine lv_aload_n hx hb dX2_handle_170 rfl (lv_at hl 1 rfl) ?_
              refine lv_dup hx hb dX2_handle_171 rfl ?_
              refine m_gi_many (v := (m_many σ)) hx hb hts inW hown hK hP ((mr_many_st _ _).trans ((mr_many_le _ _).trans ((mr_many_ot _ _).trans ((mr_many_fo _ _).trans ((mr_many_cs _ _).trans ((mr_many_bs _ _).trans ((mr_many_as _ _).trans ((mr_many_ki _ _).trans (mr_many_so _ _))))))))) k68 dX2_handle_172 ?_
              refine lv_iconst (v := 1) hx hb dX2_handle_175 (by decide) ?_
              refine lv_iadd hx hb dX2_handle_176 ?_
              refine m_pi_many hx hb hts inW hown hK hP hD hS k68 dX2_handle_177 (fun H locs hP hD hS => ?_)
              refine lv_aload_n hx hb dX2_handle_180 rfl (lv_at hl 1 rfl) ?_
              refine m_ga_8 hx hb hts inW hown hK hP k32 dX2_handle_181 ?_
              refine lv_iload hx hb dX2_handle_184 (lv_at hl 0 rfl) ?_
              refine m_ld_fo (f := (upd (m_fo σ) ((m_many σ).toNatClampNeg) ((m_st σ) k.toNatClampNeg))) (i := (m_many σ)) hx hb hK hP ((mr_fo_many _ _).trans ((mr_fo_st _ _).trans ((mr_fo_le _ _).trans ((mr_fo_ot _ _).trans (mw_fo _ _))))) (hm c59) dX2_handle_186 ?_
              refine lv_if_lt (tgt := 194) hx hb dX2_handle_187 (by decide) (fun c187 => ?_) (fun c187 => ?_)
              · refine lv_iconst (v := 0) hx hb dX2_handle_194 (by decide) ?_
                exact z_reti hx hb hr hlocks rfl hK hP hD hS ((if_neg c7).trans ((if_neg c17).trans ((if_neg c27).trans ((if_neg c35).trans ((if_neg c59).trans ((if_pos c134).trans ((if_pos c187).trans (rfl)))))))) dX2_handle_195
              · refine lv_iconst (v := 1) hx hb dX2_handle_190 (by decide) ?_
                refine lv_goto (tgt := 195) hx hb dX2_handle_191 (by decide) ?_
                exact z_reti hx hb hr hlocks rfl hK hP hD hS ((if_neg c7).trans ((if_neg c17).trans ((if_neg c27).trans ((if_neg c35).trans ((if_neg c59).trans ((if_pos c134).trans ((if_neg c187).trans (rfl)))))))) dX2_handle_195
            · refine lv_iload_n hx hb dX2_handle_137 rfl (lv_at hl 3 rfl) ?_
              refine lv_bipush (v := 7) hx hb dX2_handle_138 (by decide) ?_
              refine lv_icmp_ne (tgt := 152) hx hb dX2_handle_140 (by decide) (fun c140 => ?_) (fun c140 => ?_)
              · refine lv_iconst (v := (-1)) hx hb dX2_handle_152 (by decide) ?_
                refine m_st_ot (f := (m_ot σ)) (i := (m_many σ)) hx hb hK hP hD hS ((mr_ot_fo _ _).trans ((mr_ot_cs _ _).trans ((mr_ot_bs _ _).trans ((mr_ot_as _ _).trans ((mr_ot_ki _ _).trans (mr_ot_so _ _)))))) (hm c59) dX2_handle_153 (fun H locs hP hD hS => ?_)
                refine lv_aload_n hx hb dX2_handle_154 rfl (lv_at hl 1 rfl) ?_
                refine m_ga_10 hx hb hts inW hown hK hP k38 dX2_handle_155 ?_
                refine lv_iload hx hb dX2_handle_158 (lv_at hl 0 rfl) ?_
                refine lv_iconst (v := 0) hx hb dX2_handle_160 (by decide) ?_
                refine m_st_le (f := (m_le σ)) (i := (m_many σ)) hx hb hK hP hD hS ((mr_le_ot _ _).trans ((mr_le_fo _ _).trans ((mr_le_cs _ _).trans ((mr_le_bs _ _).trans ((mr_le_as _ _).trans ((mr_le_ki _ _).trans (mr_le_so _ _))))))) (hm c59) dX2_handle_161 (fun H locs hP hD hS => ?_)
                refine lv_aload_n hx hb dX2_handle_162 rfl (lv_at hl 1 rfl) ?_
                refine m_ga_11 hx hb hts inW hown hK hP k41 dX2_handle_163 ?_
                refine lv_iload_n hx hb dX2_handle_166 rfl (lv_at hl 2 rfl) ?_
                refine lv_iload hx hb dX2_handle_167 (lv_at hl 0 rfl) ?_
                refine m_st_st (f := (m_st σ)) (i := k) hx hb hK hP hD hS ((mr_st_le _ _).trans ((mr_st_ot _ _).trans ((mr_st_fo _ _).trans ((mr_st_cs _ _).trans ((mr_st_bs _ _).trans ((mr_st_as _ _).trans ((mr_st_ki _ _).trans (mr_st_so _ _)))))))) (mkind_in c17) dX2_handle_169 (fun H locs hP hD hS => ?_)
                refine lv_aload_n hx hb dX2_handle_170 rfl (lv_at hl 1 rfl) ?_
                refine lv_dup hx hb dX2_handle_171 rfl ?_
                refine m_gi_many (v := (m_many σ)) hx hb hts inW hown hK hP ((mr_many_st _ _).trans ((mr_many_le _ _).trans ((mr_many_ot _ _).trans ((mr_many_fo _ _).trans ((mr_many_cs _ _).trans ((mr_many_bs _ _).trans ((mr_many_as _ _).trans ((mr_many_ki _ _).trans (mr_many_so _ _))))))))) k68 dX2_handle_172 ?_
                refine lv_iconst (v := 1) hx hb dX2_handle_175 (by decide) ?_
                refine lv_iadd hx hb dX2_handle_176 ?_
                refine m_pi_many hx hb hts inW hown hK hP hD hS k68 dX2_handle_177 (fun H locs hP hD hS => ?_)
                refine lv_aload_n hx hb dX2_handle_180 rfl (lv_at hl 1 rfl) ?_
                refine m_ga_8 hx hb hts inW hown hK hP k32 dX2_handle_181 ?_
                refine lv_iload hx hb dX2_handle_184 (lv_at hl 0 rfl) ?_
                refine m_ld_fo (f := (upd (m_fo σ) ((m_many σ).toNatClampNeg) ((m_st σ) k.toNatClampNeg))) (i := (m_many σ)) hx hb hK hP ((mr_fo_many _ _).trans ((mr_fo_st _ _).trans ((mr_fo_le _ _).trans ((mr_fo_ot _ _).trans (mw_fo _ _))))) (hm c59) dX2_handle_186 ?_
                refine lv_if_lt (tgt := 194) hx hb dX2_handle_187 (by decide) (fun c187 => ?_) (fun c187 => ?_)
                · refine lv_iconst (v := 0) hx hb dX2_handle_194 (by decide) ?_
                  exact z_reti hx hb hr hlocks rfl hK hP hD hS ((if_neg c7).trans ((if_neg c17).trans ((if_neg c27).trans ((if_neg c35).trans ((if_neg c59).trans ((if_neg c134).trans ((if_neg c140).trans ((if_pos c187).trans (rfl))))))))) dX2_handle_195
                · refine lv_iconst (v := 1) hx hb dX2_handle_190 (by decide) ?_
                  refine lv_goto (tgt := 195) hx hb dX2_handle_191 (by decide) ?_
                  exact z_reti hx hb hr hlocks rfl hK hP hD hS ((if_neg c7).trans ((if_neg c17).trans ((if_neg c27).trans ((if_neg c35).trans ((if_neg c59).trans ((if_neg c134).trans ((if_neg c140).trans ((if_neg c187).trans (rfl))))))))) dX2_handle_195
              · refine lv_aload_n hx hb dX2_handle_143 rfl (lv_at hl 1 rfl) ?_
                refine m_ga_11 hx hb hts inW hown hK hP k41 dX2_handle_144 ?_
                refine lv_iload_n hx hb dX2_handle_147 rfl (lv_at hl 4 rfl) ?_
                refine m_ld_st (f := (m_st σ)) (i := a) hx hb hK hP ((mr_st_fo _ _).trans ((mr_st_cs _ _).trans ((mr_st_bs _ _).trans ((mr_st_as _ _).trans ((mr_st_ki _ _).trans (mr_st_so _ _)))))) (mak_in c27 (by first | exact Or.inl c134 | exact Or.inr c140)) dX2_handle_148 ?_
                refine lv_goto (tgt := 153) hx hb dX2_handle_149 (by decide) ?_
                refine m_st_ot (f := (m_ot σ)) (i := (m_many σ)) hx hb hK hP hD hS ((mr_ot_fo _ _).trans ((mr_ot_cs _ _).trans ((mr_ot_bs _ _).trans ((mr_ot_as _ _).trans ((mr_ot_ki _ _).trans (mr_ot_so _ _)))))) (hm c59) dX2_handle_153 (fun H locs hP hD hS => ?_)
                refine lv_aload_n hx hb dX2_handle_154 rfl (lv_at hl 1 rfl) ?_
                refine m_ga_10 hx hb hts inW hown hK hP k38 dX2_handle_155 ?_
                refine lv_iload hx hb dX2_handle_158 (lv_at hl 0 rfl) ?_
                refine lv_iconst (v := 0) hx hb dX2_handle_160 (by decide) ?_
                refine m_st_le (f := (m_le σ)) (i := (m_many σ)) hx hb hK hP hD hS ((mr_le_ot _ _).trans ((mr_le_fo _ _).trans ((mr_le_cs _ _).trans ((mr_le_bs _ _).trans ((mr_le_as _ _).trans ((mr_le_ki _ _).trans (mr_le_so _ _))))))) (hm c59) dX2_handle_161 (fun H locs hP hD hS => ?_)
                refine lv_aload_n hx hb dX2_handle_162 rfl (lv_at hl 1 rfl) ?_
                refine m_ga_11 hx hb hts inW hown hK hP k41 dX2_handle_163 ?_
                refine lv_iload_n hx hb dX2_handle_166 rfl (lv_at hl 2 rfl) ?_
                refine lv_iload hx hb dX2_handle_167 (lv_at hl 0 rfl) ?_
                refine m_st_st (f := (m_st σ)) (i := k) hx hb hK hP hD hS ((mr_st_le _ _).trans ((mr_st_ot _ _).trans ((mr_st_fo _ _).trans ((mr_st_cs _ _).trans ((mr_st_bs _ _).trans ((mr_st_as _ _).trans ((mr_st_ki _ _).trans (mr_st_so _ _)))))))) (mkind_in c17) dX2_handle_169 (fun H locs hP hD hS => ?_)
                refine lv_aload_n hx hb dX2_handle_170 rfl (lv_at hl 1 rfl) ?_
                refine lv_dup hx hb dX2_handle_171 rfl ?_
                refine m_gi_many (v := (m_many σ)) hx hb hts inW hown hK hP ((mr_many_st _ _).trans ((mr_many_le _ _).trans ((mr_many_ot _ _).trans ((mr_many_fo _ _).trans ((mr_many_cs _ _).trans ((mr_many_bs _ _).trans ((mr_many_as _ _).trans ((mr_many_ki _ _).trans (mr_many_so _ _))))))))) k68 dX2_handle_172 ?_
                refine lv_iconst (v := 1) hx hb dX2_handle_175 (by decide) ?_
                refine lv_iadd hx hb dX2_handle_176 ?_
                refine m_pi_many hx hb hts inW hown hK hP hD hS k68 dX2_handle_177 (fun H locs hP hD hS => ?_)
                refine lv_aload_n hx hb dX2_handle_180 rfl (lv_at hl 1 rfl) ?_
                refine m_ga_8 hx hb hts inW hown hK hP k32 dX2_handle_181 ?_
                refine lv_iload hx hb dX2_handle_184 (lv_at hl 0 rfl) ?_
                refine m_ld_fo (f := (upd (m_fo σ) ((m_many σ).toNatClampNeg) ((m_st σ) k.toNatClampNeg))) (i := (m_many σ)) hx hb hK hP ((mr_fo_many _ _).trans ((mr_fo_st _ _).trans ((mr_fo_le _ _).trans ((mr_fo_ot _ _).trans (mw_fo _ _))))) (hm c59) dX2_handle_186 ?_
                refine lv_if_lt (tgt := 194) hx hb dX2_handle_187 (by decide) (fun c187 => ?_) (fun c187 => ?_)
                · refine lv_iconst (v := 0) hx hb dX2_handle_194 (by decide) ?_
                  exact z_reti hx hb hr hlocks rfl hK hP hD hS ((if_neg c7).trans ((if_neg c17).trans ((if_neg c27).trans ((if_neg c35).trans ((if_neg c59).trans ((if_neg c134).trans ((if_pos c140).trans ((if_pos c187).trans (rfl))))))))) dX2_handle_195
                · refine lv_iconst (v := 1) hx hb dX2_handle_190 (by decide) ?_
                  refine lv_goto (tgt := 195) hx hb dX2_handle_191 (by decide) ?_
                  exact z_reti hx hb hr hlocks rfl hK hP hD hS ((if_neg c7).trans ((if_neg c17).trans ((if_neg c27).trans ((if_neg c35).trans ((if_neg c59).trans ((if_neg c134).trans ((if_pos c140).trans ((if_neg c187).trans (rfl))))))))) dX2_handle_195
          · refine lv_bipush (v := (-4)) hx hb dX2_handle_62 (by decide) ?_
            exact z_reti hx hb hr hlocks rfl hK hP hD hS ((if_neg c7).trans ((if_neg c17).trans ((if_neg c27).trans ((if_neg c35).trans ((if_pos c59).trans (rfl)))))) dX2_handle_64
        · refine lv_iload hx hb dX2_handle_38 (lv_at hl 4 rfl) ?_
          refine lv_iconst (v := 0) hx hb dX2_handle_40 (by decide) ?_
          refine lv_bipush (v := 100) hx hb dX2_handle_41 (by decide) ?_
          refine z_calls (As := [.int b, .int 0, .int 100]) (rest := []) XX (cMM_in l b 0 100) (va_cwS 3 hts gX2_handle_X2_in rfl rfl rfl qX2_in ⟨by decide, by decide⟩) rfl hl.1 rfl (Nat.le_of_ble_eq_true rfl) dX2_handle_43 ⟨Nat.zero_le _, Nat.zero_le _⟩ ?_
          refine lv_if_ne (tgt := 52) hx hb dX2_handle_46 (by decide) (fun c46 => ?_) (fun c46 => ?_)
          · refine lv_aload_n hx hb dX2_handle_52 rfl (lv_at hl 0 rfl) ?_
            refine m_gi_many (v := (m_many σ)) hx hb hts inW hown hK hP (rfl) k68 dX2_handle_53 ?_
            refine lv_sipush (v := 202) hx hb dX2_handle_56 (by decide) ?_
            refine lv_icmp_ne (tgt := 65) hx hb dX2_handle_59 (by decide) (fun c59 => ?_) (fun c59 => ?_)
            · refine lv_aload_n hx hb dX2_handle_65 rfl (lv_at hl 0 rfl) ?_
              refine m_gi_many (v := (m_many σ)) hx hb hts inW hown hK hP (rfl) k68 dX2_handle_66 ?_
              refine lv_istore (lv' := [(7, .int (m_many σ)), (0, .ref (O 0)), (1, .int k), (2, .int sort), (3, .int a), (4, .int b), (5, .long w)]) hx hb dX2_handle_69 hl (by decide) rfl (fun ls hl => ?_)
              refine lv_aload_n hx hb dX2_handle_71 rfl (lv_at hl 1 rfl) ?_
              refine m_ga_3 hx hb hts inW hown hK hP k17 dX2_handle_72 ?_
              refine lv_iload hx hb dX2_handle_75 (lv_at hl 0 rfl) ?_
              refine lv_iload_n hx hb dX2_handle_77 rfl (lv_at hl 3 rfl) ?_
              refine m_st_so (f := (m_so σ)) (i := (m_many σ)) hx hb hK hP hD hS (rfl) (hm c59) dX2_handle_78 (fun H locs hP hD hS => ?_)
              refine lv_aload_n hx hb dX2_handle_79 rfl (lv_at hl 1 rfl) ?_
              refine m_ga_4 hx hb hts inW hown hK hP k20 dX2_handle_80 ?_
              refine lv_iload hx hb dX2_handle_83 (lv_at hl 0 rfl) ?_
              refine lv_iload_n hx hb dX2_handle_85 rfl (lv_at hl 2 rfl) ?_
              refine m_st_ki (f := (m_ki σ)) (i := (m_many σ)) hx hb hK hP hD hS (mr_ki_so _ _) (hm c59) dX2_handle_86 (fun H locs hP hD hS => ?_)
              refine lv_aload_n hx hb dX2_handle_87 rfl (lv_at hl 1 rfl) ?_
              refine m_ga_5 hx hb hts inW hown hK hP k23 dX2_handle_88 ?_
              refine lv_iload hx hb dX2_handle_91 (lv_at hl 0 rfl) ?_
              refine lv_iload_n hx hb dX2_handle_93 rfl (lv_at hl 4 rfl) ?_
              refine m_st_as (f := (m_as σ)) (i := (m_many σ)) hx hb hK hP hD hS ((mr_as_ki _ _).trans (mr_as_so _ _)) (hm c59) dX2_handle_94 (fun H locs hP hD hS => ?_)
              refine lv_aload_n hx hb dX2_handle_95 rfl (lv_at hl 1 rfl) ?_
              refine m_ga_6 hx hb hts inW hown hK hP k26 dX2_handle_96 ?_
              refine lv_iload hx hb dX2_handle_99 (lv_at hl 0 rfl) ?_
              refine lv_iload hx hb dX2_handle_101 (lv_at hl 5 rfl) ?_
              refine m_st_bs (f := (m_bs σ)) (i := (m_many σ)) hx hb hK hP hD hS ((mr_bs_as _ _).trans ((mr_bs_ki _ _).trans (mr_bs_so _ _))) (hm c59) dX2_handle_103 (fun H locs hP hD hS => ?_)
              refine lv_aload_n hx hb dX2_handle_104 rfl (lv_at hl 1 rfl) ?_
              refine m_ga_7 hx hb hts inW hown hK hP k29 dX2_handle_105 ?_
              refine lv_iload hx hb dX2_handle_108 (lv_at hl 0 rfl) ?_
              refine lv_lload hx hb dX2_handle_110 (lv_at hl 6 rfl) ?_
              refine m_st_cs (f := (m_cs σ)) (i := (m_many σ)) hx hb hK hP hD hS ((mr_cs_bs _ _).trans ((mr_cs_as _ _).trans ((mr_cs_ki _ _).trans (mr_cs_so _ _)))) (hm c59) dX2_handle_112 (fun H locs hP hD hS => ?_)
              refine lv_aload_n hx hb dX2_handle_113 rfl (lv_at hl 1 rfl) ?_
              refine m_ga_8 hx hb hts inW hown hK hP k32 dX2_handle_114 ?_
              refine lv_iload hx hb dX2_handle_117 (lv_at hl 0 rfl) ?_
              refine lv_aload_n hx hb dX2_handle_119 rfl (lv_at hl 1 rfl) ?_
              refine m_ga_11 hx hb hts inW hown hK hP k41 dX2_handle_120 ?_
              refine lv_iload_n hx hb dX2_handle_123 rfl (lv_at hl 2 rfl) ?_
              refine m_ld_st (f := (m_st σ)) (i := k) hx hb hK hP ((mr_st_cs _ _).trans ((mr_st_bs _ _).trans ((mr_st_as _ _).trans ((mr_st_ki _ _).trans (mr_st_so _ _))))) (mkind_in c17) dX2_handle_124 ?_
              refine m_st_fo (f := (m_fo σ)) (i := (m_many σ)) hx hb hK hP hD hS ((mr_fo_cs _ _).trans ((mr_fo_bs _ _).trans ((mr_fo_as _ _).trans ((mr_fo_ki _ _).trans (mr_fo_so _ _))))) (hm c59) dX2_handle_125 (fun H locs hP hD hS => ?_)
              refine lv_aload_n hx hb dX2_handle_126 rfl (lv_at hl 1 rfl) ?_
              refine m_ga_9 hx hb hts inW hown hK hP k35 dX2_handle_127 ?_
              refine lv_iload hx hb dX2_handle_130 (lv_at hl 0 rfl) ?_
              refine lv_iload_n hx hb dX2_handle_132 rfl (lv_at hl 3 rfl) ?_
              refine lv_iconst (v := 2) hx hb dX2_handle_133 (by decide) ?_
              refine lv_icmp_eq (tgt := 143) hx hb dX2_handle_134 (by decide) (fun c134 => ?_) (fun c134 => ?_)
              · refine lv_aload_n hx hb dX2_handle_143 rfl (lv_at hl 1 rfl) ?_
                refine m_ga_11 hx hb hts inW hown hK hP k41 dX2_handle_144 ?_
                refine lv_iload_n hx hb dX2_handle_147 rfl (lv_at hl 4 rfl) ?_
                refine m_ld_st (f := (m_st σ)) (i := a) hx hb hK hP ((mr_st_fo _ _).trans ((mr_st_cs _ _).trans ((mr_st_bs _ _).trans ((mr_st_as _ _).trans ((mr_st_ki _ _).trans (mr_st_so _ _)))))) (mak_in c27 (by first | exact Or.inl c134 | exact Or.inr c140)) dX2_handle_148 ?_
                refine lv_goto (tgt := 153) hx hb dX2_handle_149 (by decide) ?_
                refine m_st_ot (f := (m_ot σ)) (i := (m_many σ)) hx hb hK hP hD hS ((mr_ot_fo _ _).trans ((mr_ot_cs _ _).trans ((mr_ot_bs _ _).trans ((mr_ot_as _ _).trans ((mr_ot_ki _ _).trans (mr_ot_so _ _)))))) (hm c59) dX2_handle_153 (fun H locs hP hD hS => ?_)
                refine lv_aload_n hx hb dX2_handle_154 rfl (lv_at hl 1 rfl) ?_
                refine m_ga_10 hx hb hts inW hown hK hP k38 dX2_handle_155 ?_
                refine lv_iload hx hb dX2_handle_158 (lv_at hl 0 rfl) ?_
                refine lv_iconst (v := 0) hx hb dX2_handle_160 (by decide) ?_
                refine m_st_le (f := (m_le σ)) (i := (m_many σ)) hx hb hK hP hD hS ((mr_le_ot _ _).trans ((mr_le_fo _ _).trans ((mr_le_cs _ _).trans ((mr_le_bs _ _).trans ((mr_le_as _ _).trans ((mr_le_ki _ _).trans (mr_le_so _ _))))))) (hm c59) dX2_handle_161 (fun H locs hP hD hS => ?_)
                refine lv_aload_n hx hb dX2_handle_162 rfl (lv_at hl 1 rfl) ?_
                refine m_ga_11 hx hb hts inW hown hK hP k41 dX2_handle_163 ?_
                refine lv_iload_n hx hb dX2_handle_166 rfl (lv_at hl 2 rfl) ?_
                refine lv_iload hx hb dX2_handle_167 (lv_at hl 0 rfl) ?_
                refine m_st_st (f := (m_st σ)) (i := k) hx hb hK hP hD hS ((mr_st_le _ _).trans ((mr_st_ot _ _).trans ((mr_st_fo _ _).trans ((mr_st_cs _ _).trans ((mr_st_bs _ _).trans ((mr_st_as _ _).trans ((mr_st_ki _ _).trans (mr_st_so _ _)))))))) (mkind_in c17) dX2_handle_169 (fun H locs hP hD hS => ?_)
                refine lv_aload_n hx hb dX2_handle_170 rfl (lv_at hl 1 rfl) ?_
                refine lv_dup hx hb dX2_handle_171 rfl ?_
                refine m_gi_many (v := (m_many σ)) hx hb hts inW hown hK hP ((mr_many_st _ _).trans ((mr_many_le _ _).trans ((mr_many_ot _ _).trans ((mr_many_fo _ _).trans ((mr_many_cs _ _).trans ((mr_many_bs _ _).trans ((mr_many_as _ _).trans ((mr_many_ki _ _).trans (mr_many_so _ _))))))))) k68 dX2_handle_172 ?_
                refine lv_iconst (v := 1) hx hb dX2_handle_175 (by decide) ?_
                refine lv_iadd hx hb dX2_handle_176 ?_
                refine m_pi_many hx hb hts inW hown hK hP hD hS k68 dX2_handle_177 (fun H locs hP hD hS => ?_)
                refine lv_aload_n hx hb dX2_handle_180 rfl (lv_at hl 1 rfl) ?_
                refine m_ga_8 hx hb hts inW hown hK hP k32 dX2_handle_181 ?_
                refine lv_iload hx hb dX2_handle_184 (lv_at hl 0 rfl) ?_
                refine m_ld_fo (f := (upd (m_fo σ) ((m_many σ).toNatClampNeg) ((m_st σ) k.toNatClampNeg))) (i := (m_many σ)) hx hb hK hP ((mr_fo_many _ _).trans ((mr_fo_st _ _).trans ((mr_fo_le _ _).trans ((mr_fo_ot _ _).trans (mw_fo _ _))))) (hm c59) dX2_handle_186 ?_
                refine lv_if_lt (tgt := 194) hx hb dX2_handle_187 (by decide) (fun c187 => ?_) (fun c187 => ?_)
                · refine lv_iconst (v := 0) hx hb dX2_handle_194 (by decide) ?_
                  exact z_reti hx hb hr hlocks rfl hK hP hD hS ((if_neg c7).trans ((if_neg c17).trans ((if_neg c27).trans ((if_pos c35).trans ((if_neg c46).trans ((if_neg c59).trans ((if_pos c134).trans ((if_pos c187).trans (rfl))))))))) dX2_handle_195
                · refine lv_iconst (v := 1) hx hb dX2_handle_190 (by decide) ?_
                  refine lv_goto (tgt := 195) hx hb dX2_handle_191 (by decide) ?_
                  exact z_reti hx hb hr hlocks rfl hK hP hD hS ((if_neg c7).trans ((if_neg c17).trans ((if_neg c27).trans ((if_pos c35).trans ((if_neg c46).trans ((if_neg c59).trans ((if_pos c134).trans ((if_neg c187).trans (rfl))))))))) dX2_handle_195
              · refine lv_iload_n hx hb dX2_handle_137 rfl (lv_at hl 3 rfl) ?_
                refine lv_bipush (v := 7) hx hb dX2_handle_138 (by decide) ?_
                refine lv_icmp_ne (tgt := 152) hx hb dX2_handle_140 (by decide) (fun c140 => ?_) (fun c140 => ?_)
                · refine lv_iconst (v := (-1)) hx hb dX2_handle_152 (by decide) ?_
                  refine m_st_ot (f := (m_ot σ)) (i := (m_many σ)) hx hb hK hP hD hS ((mr_ot_fo _ _).trans ((mr_ot_cs _ _).trans ((mr_ot_bs _ _).trans ((mr_ot_as _ _).trans ((mr_ot_ki _ _).trans (mr_ot_so _ _)))))) (hm c59) dX2_handle_153 (fun H locs hP hD hS => ?_)
                  refine lv_aload_n hx hb dX2_handle_154 rfl (lv_at hl 1 rfl) ?_
                  refine m_ga_10 hx hb hts inW hown hK hP k38 dX2_handle_155 ?_
                  refine lv_iload hx hb dX2_handle_158 (lv_at hl 0 rfl) ?_
                  refine lv_iconst (v := 0) hx hb dX2_handle_160 (by decide) ?_
                  refine m_st_le (f := (m_le σ)) (i := (m_many σ)) hx hb hK hP hD hS ((mr_le_ot _ _).trans ((mr_le_fo _ _).trans ((mr_le_cs _ _).trans ((mr_le_bs _ _).trans ((mr_le_as _ _).trans ((mr_le_ki _ _).trans (mr_le_so _ _))))))) (hm c59) dX2_handle_161 (fun H locs hP hD hS => ?_)
                  refine lv_aload_n hx hb dX2_handle_162 rfl (lv_at hl 1 rfl) ?_
                  refine m_ga_11 hx hb hts inW hown hK hP k41 dX2_handle_163 ?_
                  refine lv_iload_n hx hb dX2_handle_166 rfl (lv_at hl 2 rfl) ?_
                  refine lv_iload hx hb dX2_handle_167 (lv_at hl 0 rfl) ?_
                  refine m_st_st (f := (m_st σ)) (i := k) hx hb hK hP hD hS ((mr_st_le _ _).trans ((mr_st_ot _ _).trans ((mr_st_fo _ _).trans ((mr_st_cs _ _).trans ((mr_st_bs _ _).trans ((mr_st_as _ _).trans ((mr_st_ki _ _).trans (mr_st_so _ _)))))))) (mkind_in c17) dX2_handle_169 (fun H locs hP hD hS => ?_)
                  refine lv_aload_n hx hb dX2_handle_170 rfl (lv_at hl 1 rfl) ?_
                  refine lv_dup hx hb dX2_handle_171 rfl ?_
                  refine m_gi_many (v := (m_many σ)) hx hb hts inW hown hK hP ((mr_many_st _ _).trans ((mr_many_le _ _).trans ((mr_many_ot _ _).trans ((mr_many_fo _ _).trans ((mr_many_cs _ _).trans ((mr_many_bs _ _).trans ((mr_many_as _ _).trans ((mr_many_ki _ _).trans (mr_many_so _ _))))))))) k68 dX2_handle_172 ?_
                  refine lv_iconst (v := 1) hx hb dX2_handle_175 (by decide) ?_
                  refine lv_iadd hx hb dX2_handle_176 ?_
                  refine m_pi_many hx hb hts inW hown hK hP hD hS k68 dX2_handle_177 (fun H locs hP hD hS => ?_)
                  refine lv_aload_n hx hb dX2_handle_180 rfl (lv_at hl 1 rfl) ?_
                  refine m_ga_8 hx hb hts inW hown hK hP k32 dX2_handle_181 ?_
                  refine lv_iload hx hb dX2_handle_184 (lv_at hl 0 rfl) ?_
                  refine m_ld_fo (f := (upd (m_fo σ) ((m_many σ).toNatClampNeg) ((m_st σ) k.toNatClampNeg))) (i := (m_many σ)) hx hb hK hP ((mr_fo_many _ _).trans ((mr_fo_st _ _).trans ((mr_fo_le _ _).trans ((mr_fo_ot _ _).trans (mw_fo _ _))))) (hm c59) dX2_handle_186 ?_
                  refine lv_if_lt (tgt := 194) hx hb dX2_handle_187 (by decide) (fun c187 => ?_) (fun c187 => ?_)
                  · refine lv_iconst (v := 0) hx hb dX2_handle_194 (by decide) ?_
                    exact z_reti hx hb hr hlocks rfl hK hP hD hS ((if_neg c7).trans ((if_neg c17).trans ((if_neg c27).trans ((if_pos c35).trans ((if_neg c46).trans ((if_neg c59).trans ((if_neg c134).trans ((if_neg c140).trans ((if_pos c187).trans (rfl)))))))))) dX2_handle_195
                  · refine lv_iconst (v := 1) hx hb dX2_handle_190 (by decide) ?_
                    refine lv_goto (tgt := 195) hx hb dX2_handle_191 (by decide) ?_
                    exact z_reti hx hb hr hlocks rfl hK hP hD hS ((if_neg c7).trans ((if_neg c17).trans ((if_neg c27).trans ((if_pos c35).trans ((if_neg c46).trans ((if_neg c59).trans ((if_neg c134).trans ((if_neg c140).trans ((if_neg c187).trans (rfl)))))))))) dX2_handle_195
                · refine lv_aload_n hx hb dX2_handle_143 rfl (lv_at hl 1 rfl) ?_
                  refine m_ga_11 hx hb hts inW hown hK hP k41 dX2_handle_144 ?_
                  refine lv_iload_n hx hb dX2_handle_147 rfl (lv_at hl 4 rfl) ?_
                  refine m_ld_st (f := (m_st σ)) (i := a) hx hb hK hP ((mr_st_fo _ _).trans ((mr_st_cs _ _).trans ((mr_st_bs _ _).trans ((mr_st_as _ _).trans ((mr_st_ki _ _).trans (mr_st_so _ _)))))) (mak_in c27 (by first | exact Or.inl c134 | exact Or.inr c140)) dX2_handle_148 ?_
                  refine lv_goto (tgt := 153) hx hb dX2_handle_149 (by decide) ?_
                  refine m_st_ot (f := (m_ot σ)) (i := (m_many σ)) hx hb hK hP hD hS ((mr_ot_fo _ _).trans ((mr_ot_cs _ _).trans ((mr_ot_bs _ _).trans ((mr_ot_as _ _).trans ((mr_ot_ki _ _).trans (mr_ot_so _ _)))))) (hm c59) dX2_handle_153 (fun H locs hP hD hS => ?_)
                  refine lv_aload_n hx hb dX2_handle_154 rfl (lv_at hl 1 rfl) ?_
                  refine m_ga_10 hx hb hts inW hown hK hP k38 dX2_handle_155 ?_
                  refine lv_iload hx hb dX2_handle_158 (lv_at hl 0 rfl) ?_
                  refine lv_iconst (v := 0) hx hb dX2_handle_160 (by decide) ?_
                  refine m_st_le (f := (m_le σ)) (i := (m_many σ)) hx hb hK hP hD hS ((mr_le_ot _ _).trans ((mr_le_fo _ _).trans ((mr_le_cs _ _).trans ((mr_le_bs _ _).trans ((mr_le_as _ _).trans ((mr_le_ki _ _).trans (mr_le_so _ _))))))) (hm c59) dX2_handle_161 (fun H locs hP hD hS => ?_)
                  refine lv_aload_n hx hb dX2_handle_162 rfl (lv_at hl 1 rfl) ?_
                  refine m_ga_11 hx hb hts inW hown hK hP k41 dX2_handle_163 ?_
                  refine lv_iload_n hx hb dX2_handle_166 rfl (lv_at hl 2 rfl) ?_
                  refine lv_iload hx hb dX2_handle_167 (lv_at hl 0 rfl) ?_
                  refine m_st_st (f := (m_st σ)) (i := k) hx hb hK hP hD hS ((mr_st_le _ _).trans ((mr_st_ot _ _).trans ((mr_st_fo _ _).trans ((mr_st_cs _ _).trans ((mr_st_bs _ _).trans ((mr_st_as _ _).trans ((mr_st_ki _ _).trans (mr_st_so _ _)))))))) (mkind_in c17) dX2_handle_169 (fun H locs hP hD hS => ?_)
                  refine lv_aload_n hx hb dX2_handle_170 rfl (lv_at hl 1 rfl) ?_
                  refine lv_dup hx hb dX2_handle_171 rfl ?_
                  refine m_gi_many (v := (m_many σ)) hx hb hts inW hown hK hP ((mr_many_st _ _).trans ((mr_many_le _ _).trans ((mr_many_ot _ _).trans ((mr_many_fo _ _).trans ((mr_many_cs _ _).trans ((mr_many_bs _ _).trans ((mr_many_as _ _).trans ((mr_many_ki _ _).trans (mr_many_so _ _))))))))) k68 dX2_handle_172 ?_
                  refine lv_iconst (v := 1) hx hb dX2_handle_175 (by decide) ?_
                  refine lv_iadd hx hb dX2_handle_176 ?_
                  refine m_pi_many hx hb hts inW hown hK hP hD hS k68 dX2_handle_177 (fun H locs hP hD hS => ?_)
                  refine lv_aload_n hx hb dX2_handle_180 rfl (lv_at hl 1 rfl) ?_
                  refine m_ga_8 hx hb hts inW hown hK hP k32 dX2_handle_181 ?_
                  refine lv_iload hx hb dX2_handle_184 (lv_at hl 0 rfl) ?_
                  refine m_ld_fo (f := (upd (m_fo σ) ((m_many σ).toNatClampNeg) ((m_st σ) k.toNatClampNeg))) (i := (m_many σ)) hx hb hK hP ((mr_fo_many _ _).trans ((mr_fo_st _ _).trans ((mr_fo_le _ _).trans ((mr_fo_ot _ _).trans (mw_fo _ _))))) (hm c59) dX2_handle_186 ?_
                  refine lv_if_lt (tgt := 194) hx hb dX2_handle_187 (by decide) (fun c187 => ?_) (fun c187 => ?_)
                  · refine lv_iconst (v := 0) hx hb dX2_handle_194 (by decide) ?_
                    exact z_reti hx hb hr hlocks rfl hK hP hD hS ((if_neg c7).trans ((if_neg c17).trans ((if_neg c27).trans ((if_pos c35).trans ((if_neg c46).trans ((if_neg c59).trans ((if_neg c134).trans ((if_pos c140).trans ((if_pos c187).trans (rfl)))))))))) dX2_handle_195
                  · refine lv_iconst (v := 1) hx hb dX2_handle_190 (by decide) ?_
                    refine lv_goto (tgt := 195) hx hb dX2_handle_191 (by decide) ?_
                    exact z_reti hx hb hr hlocks rfl hK hP hD hS ((if_neg c7).trans ((if_neg c17).trans ((if_neg c27).trans ((if_pos c35).trans ((if_neg c46).trans ((if_neg c59).trans ((if_neg c134).trans ((if_pos c140).trans ((if_neg c187).trans (rfl)))))))))) dX2_handle_195
            · refine lv_bipush (v := (-4)) hx hb dX2_handle_62 (by decide) ?_
              exact z_reti hx hb hr hlocks rfl hK hP hD hS ((if_neg c7).trans ((if_neg c17).trans ((if_neg c27).trans ((if_pos c35).trans ((if_neg c46).trans ((if_pos c59).trans (rfl))))))) dX2_handle_64
          · refine lv_bipush (v := (-3)) hx hb dX2_handle_49 (by decide) ?_
            exact z_reti hx hb hr hlocks rfl hK hP hD hS ((if_neg c7).trans ((if_neg c17).trans ((if_neg c27).trans ((if_pos c35).trans ((if_pos c46).trans (rfl)))))) dX2_handle_51
      · refine lv_bipush (v := (-2)) hx hb dX2_handle_30 (by decide) ?_
        exact z_reti hx hb hr hlocks rfl hK hP hD hS ((if_neg c7).trans ((if_neg c17).trans ((if_pos c27).trans (rfl)))) dX2_handle_32
  · refine lv_bipush (v := (-3)) hx hb dX2_handle_10 (by decide) ?_
    exact z_reti hx hb hr hlocks rfl hK hP hD hS ((if_pos c7).trans (rfl)) dX2_handle_12
