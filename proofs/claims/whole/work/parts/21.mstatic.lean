noncomputable def mf_in  (v : Int32) (lo : Int32) (hi : Int32) : Int32 := if v < lo then 0 else (if hi < v then 0 else 1)
set_option maxRecDepth 100000 in
set_option maxHeartbeats 4000000 in
theorem cMM_in (l : Launch) (v : Int32) (lo : Int32) (hi : Int32) : cS l yX2_in wsX2_in { frames := 0, cells := 0, slots := 0, locals := 0 } [.int v, .int lo, .int hi] (mf_in v lo hi) := by
  refine z_startS (cc := cX2_in) (maxL := 3) (ret := (some .boolean)) (by decide) rfl (Nat.le_of_ble_eq_true rfl) ?_
  intro p e s m below meth c X ls hl
  obtain ⟨hx, hb, hr, hml, hts, hown, hlocks, hnm⟩ := X
  have hown : s.vm.findClass RX2 = some m.cls := hown
  have hl : lv_has ls 3 [(0, .int v), (1, .int lo), (2, .int hi)] := hl
  have XX : CallFix p m c cX2_in 3 s _ wsX2_in RX2 := ⟨hx, hb, hml, hown, hts⟩
  refine lv_iload_n hx hb dX2_in_0 rfl (lv_at hl 0 rfl) ?_
  refine lv_iload_n hx hb dX2_in_1 rfl (lv_at hl 1 rfl) ?_
  refine lv_icmp_lt (tgt := 14) hx hb dX2_in_2 (by decide) (fun c2 => ?_) (fun c2 => ?_)
  · refine lv_iconst (v := 0) hx hb dX2_in_14 (by decide) ?_
    exact z_retS hx hb hr hlocks (rfl) (((if_pos c2).trans (rfl)).symm) dX2_in_15
  · refine lv_iload_n hx hb dX2_in_5 rfl (lv_at hl 0 rfl) ?_
    refine lv_iload_n hx hb dX2_in_6 rfl (lv_at hl 2 rfl) ?_
    refine lv_icmp_gt (tgt := 14) hx hb dX2_in_7 (by decide) (fun c7 => ?_) (fun c7 => ?_)
    · refine lv_iconst (v := 0) hx hb dX2_in_14 (by decide) ?_
      exact z_retS hx hb hr hlocks (rfl) (((if_neg c2).trans ((if_pos c7).trans (rfl))).symm) dX2_in_15
    · refine lv_iconst (v := 1) hx hb dX2_in_10 (by decide) ?_
      refine lv_goto (tgt := 15) hx hb dX2_in_11 (by decide) ?_
      exact z_retS hx hb hr hlocks (rfl) (((if_neg c2).trans ((if_neg c7).trans (rfl))).symm) dX2_in_15
theorem nb_mf_in (v : Int32) (lo : Int32) (hi : Int32) : narrow .boolean (.int (mf_in v lo hi)) = .int (mf_in v lo hi) := by
  unfold mf_in
  repeat' split
  all_goals first | rfl | exact nb_mf_in .. | exact nb_mf_isBox .. | exact nb_mf_isKind ..
noncomputable def mf_isKind  (k : Int32) : Int32 := (mf_in k 0 9)
set_option maxRecDepth 100000 in
set_option maxHeartbeats 4000000 in
theorem cMM_isKind (l : Launch) (k : Int32) : cS l yX2_isKind wsX2_isKind { frames := 1, cells := 0, slots := 0, locals := 100 } [.int k] (mf_isKind k) := by
  refine z_startS (cc := cX2_isKind) (maxL := 1) (ret := (some .boolean)) (by decide) rfl (Nat.le_of_ble_eq_true rfl) ?_
  intro p e s m below meth c X ls hl
  obtain ⟨hx, hb, hr, hml, hts, hown, hlocks, hnm⟩ := X
  have hown : s.vm.findClass RX2 = some m.cls := hown
  have hl : lv_has ls 1 [(0, .int k)] := hl
  have XX : CallFix p m c cX2_isKind 1 s _ wsX2_isKind RX2 := ⟨hx, hb, hml, hown, hts⟩
  refine lv_iload_n hx hb dX2_isKind_0 rfl (lv_at hl 0 rfl) ?_
  refine lv_iconst (v := 0) hx hb dX2_isKind_1 (by decide) ?_
  refine lv_bipush (v := 9) hx hb dX2_isKind_2 (by decide) ?_
  refine z_calls (As := [.int k, .int 0, .int 9]) (rest := []) XX (cMM_in l k 0 9) (va_cwS 3 hts gX2_isKind_X2_in rfl rfl rfl qX2_in ⟨by decide, by decide⟩) rfl hl.1 rfl (Nat.le_of_ble_eq_true rfl) dX2_isKind_4 ⟨Nat.zero_le _, Nat.zero_le _⟩ ?_
  exact z_retS hx hb hr hlocks (nb_mf_in ..) ((rfl).symm) dX2_isKind_7
theorem nb_mf_isKind (k : Int32) : narrow .boolean (.int (mf_isKind k)) = .int (mf_isKind k) := by
  unfold mf_isKind
  repeat' split
  all_goals first | rfl | exact nb_mf_in .. | exact nb_mf_isBox .. | exact nb_mf_isKind ..
noncomputable def mf_isBox  (b : Int32) : Int32 := (mf_in b 0 5)
set_option maxRecDepth 100000 in
set_option maxHeartbeats 4000000 in
theorem cMM_isBox (l : Launch) (b : Int32) : cS l yX2_isBox wsX2_isBox { frames := 1, cells := 0, slots := 0, locals := 100 } [.int b] (mf_isBox b) := by
  refine z_startS (cc := cX2_isBox) (maxL := 1) (ret := (some .boolean)) (by decide) rfl (Nat.le_of_ble_eq_true rfl) ?_
  intro p e s m below meth c X ls hl
  obtain ⟨hx, hb, hr, hml, hts, hown, hlocks, hnm⟩ := X
  have hown : s.vm.findClass RX2 = some m.cls := hown
  have hl : lv_has ls 1 [(0, .int b)] := hl
  have XX : CallFix p m c cX2_isBox 1 s _ wsX2_isBox RX2 := ⟨hx, hb, hml, hown, hts⟩
  refine lv_iload_n hx hb dX2_isBox_0 rfl (lv_at hl 0 rfl) ?_
  refine lv_iconst (v := 0) hx hb dX2_isBox_1 (by decide) ?_
  refine lv_iconst (v := 5) hx hb dX2_isBox_2 (by decide) ?_
  refine z_calls (As := [.int b, .int 0, .int 5]) (rest := []) XX (cMM_in l b 0 5) (va_cwS 3 hts gX2_isBox_X2_in rfl rfl rfl qX2_in ⟨by decide, by decide⟩) rfl hl.1 rfl (Nat.le_of_ble_eq_true rfl) dX2_isBox_3 ⟨Nat.zero_le _, Nat.zero_le _⟩ ?_
  exact z_retS hx hb hr hlocks (nb_mf_in ..) ((rfl).symm) dX2_isBox_6
theorem nb_mf_isBox (b : Int32) : narrow .boolean (.int (mf_isBox b)) = .int (mf_isBox b) := by
  unfold mf_isBox
  repeat' split
  all_goals first | rfl | exact nb_mf_in .. | exact nb_mf_isBox .. | exact nb_mf_isKind ..
noncomputable def mf_areKnown  (sort : Int32) (a : Int32) (b : Int32) : Int32 := if sort = 0 then (mf_isBox a) else (if sort = 1 then (mf_isKind a) else (if sort = 2 then (mf_isKind a) else (if sort = 3 then (mf_isKind a) else (if sort = 4 then 1 else (if sort = 5 then 1 else (if sort = 6 then (mf_isBox a) else (if sort = 7 then (mf_isKind a) else (if sort = 8 then (if (mf_isBox a) = 0 then 0 else (if (mf_isBox b) = 0 then 0 else 1)) else (if sort = 9 then 1 else (if sort = 10 then (mf_isBox a) else (if sort = 11 then (mf_isBox a) else 1)))))))))))
set_option maxRecDepth 100000 in
set_option maxHeartbeats 4000000 in
theorem cMM_areKnown (l : Launch) (sort : Int32) (a : Int32) (b : Int32) : cS l yX2_areKnown wsX2_areKnown { frames := 2, cells := 0, slots := 0, locals := 200 } [.int sort, .int a, .int b] (mf_areKnown sort a b) := by
  refine z_startS (cc := cX2_areKnown) (maxL := 3) (ret := (some .boolean)) (by decide) rfl (Nat.le_of_ble_eq_true rfl) ?_
  intro p e s m below meth c X ls hl
  obtain ⟨hx, hb, hr, hml, hts, hown, hlocks, hnm⟩ := X
  have hown : s.vm.findClass RX2 = some m.cls := hown
  have hl : lv_has ls 3 [(0, .int sort), (1, .int a), (2, .int b)] := hl
  have XX : CallFix p m c cX2_areKnown 3 s _ wsX2_areKnown RX2 := ⟨hx, hb, hml, hown, hts⟩
  refine lv_iload_n hx hb dX2_areKnown_0 rfl (lv_at hl 0 rfl) ?_
  by_cases t1_0 : sort = 0
  · refine lv_tableIn (off := 63) (tgt := 64) hx hb dX2_areKnown_1 (by rw [t1_0]; decide) (by rw [t1_0]; decide) (by rw [t1_0]; rfl) (by decide) ?_
    refine lv_iload_n hx hb dX2_areKnown_64 rfl (lv_at hl 1 rfl) ?_
    refine z_calls (As := [.int a]) (rest := []) XX (cMM_isBox l a) (va_cwS 1 hts gX2_areKnown_X2_isBox rfl rfl rfl qX2_isBox ⟨by decide, by decide⟩) rfl hl.1 rfl (Nat.le_of_ble_eq_true rfl) dX2_areKnown_65 ⟨Nat.zero_le _, Nat.zero_le _⟩ ?_
    exact z_retS hx hb hr hlocks (nb_mf_isBox ..) (((if_pos t1_0).trans (rfl)).symm) dX2_areKnown_68
  · by_cases t1_1 : sort = 1
    · refine lv_tableIn (off := 88) (tgt := 89) hx hb dX2_areKnown_1 (by rw [t1_1]; decide) (by rw [t1_1]; decide) (by rw [t1_1]; rfl) (by decide) ?_
      refine lv_iload_n hx hb dX2_areKnown_89 rfl (lv_at hl 1 rfl) ?_
      refine z_calls (As := [.int a]) (rest := []) XX (cMM_isKind l a) (va_cwS 1 hts gX2_areKnown_X2_isKind rfl rfl rfl qX2_isKind ⟨by decide, by decide⟩) rfl hl.1 rfl (Nat.le_of_ble_eq_true rfl) dX2_areKnown_90 ⟨Nat.zero_le _, Nat.zero_le _⟩ ?_
      exact z_retS hx hb hr hlocks (nb_mf_isKind ..) (((if_neg t1_0).trans ((if_pos t1_1).trans (rfl))).symm) dX2_areKnown_93
    · by_cases t1_2 : sort = 2
      · refine lv_tableIn (off := 88) (tgt := 89) hx hb dX2_areKnown_1 (by rw [t1_2]; decide) (by rw [t1_2]; decide) (by rw [t1_2]; rfl) (by decide) ?_
        refine lv_iload_n hx hb dX2_areKnown_89 rfl (lv_at hl 1 rfl) ?_
        refine z_calls (As := [.int a]) (rest := []) XX (cMM_isKind l a) (va_cwS 1 hts gX2_areKnown_X2_isKind rfl rfl rfl qX2_isKind ⟨by decide, by decide⟩) rfl hl.1 rfl (Nat.le_of_ble_eq_true rfl) dX2_areKnown_90 ⟨Nat.zero_le _, Nat.zero_le _⟩ ?_
        exact z_retS hx hb hr hlocks (nb_mf_isKind ..) (((if_neg t1_0).trans ((if_neg t1_1).trans ((if_pos t1_2).trans (rfl)))).symm) dX2_areKnown_93
      · by_cases t1_3 : sort = 3
        · refine lv_tableIn (off := 88) (tgt := 89) hx hb dX2_areKnown_1 (by rw [t1_3]; decide) (by rw [t1_3]; decide) (by rw [t1_3]; rfl) (by decide) ?_
          refine lv_iload_n hx hb dX2_areKnown_89 rfl (lv_at hl 1 rfl) ?_
          refine z_calls (As := [.int a]) (rest := []) XX (cMM_isKind l a) (va_cwS 1 hts gX2_areKnown_X2_isKind rfl rfl rfl qX2_isKind ⟨by decide, by decide⟩) rfl hl.1 rfl (Nat.le_of_ble_eq_true rfl) dX2_areKnown_90 ⟨Nat.zero_le _, Nat.zero_le _⟩ ?_
          exact z_retS hx hb hr hlocks (nb_mf_isKind ..) (((if_neg t1_0).trans ((if_neg t1_1).trans ((if_neg t1_2).trans ((if_pos t1_3).trans (rfl))))).symm) dX2_areKnown_93
        · by_cases t1_4 : sort = 4
          · refine lv_tableIn (off := 93) (tgt := 94) hx hb dX2_areKnown_1 (by rw [t1_4]; decide) (by rw [t1_4]; decide) (by rw [t1_4]; rfl) (by decide) ?_
            refine lv_iconst (v := 1) hx hb dX2_areKnown_94 (by decide) ?_
            exact z_retS hx hb hr hlocks (rfl) (((if_neg t1_0).trans ((if_neg t1_1).trans ((if_neg t1_2).trans ((if_neg t1_3).trans ((if_pos t1_4).trans (rfl)))))).symm) dX2_areKnown_95
          · by_cases t1_5 : sort = 5
            · refine lv_tableIn (off := 93) (tgt := 94) hx hb dX2_areKnown_1 (by rw [t1_5]; decide) (by rw [t1_5]; decide) (by rw [t1_5]; rfl) (by decide) ?_
              refine lv_iconst (v := 1) hx hb dX2_areKnown_94 (by decide) ?_
              exact z_retS hx hb hr hlocks (rfl) (((if_neg t1_0).trans ((if_neg t1_1).trans ((if_neg t1_2).trans ((if_neg t1_3).trans ((if_neg t1_4).trans ((if_pos t1_5).trans (rfl))))))).symm) dX2_areKnown_95
            · by_cases t1_6 : sort = 6
              · refine lv_tableIn (off := 63) (tgt := 64) hx hb dX2_areKnown_1 (by rw [t1_6]; decide) (by rw [t1_6]; decide) (by rw [t1_6]; rfl) (by decide) ?_
                refine lv_iload_n hx hb dX2_areKnown_64 rfl (lv_at hl 1 rfl) ?_
                refine z_calls (As := [.int a]) (rest := []) XX (cMM_isBox l a) (va_cwS 1 hts gX2_areKnown_X2_isBox rfl rfl rfl qX2_isBox ⟨by decide, by decide⟩) rfl hl.1 rfl (Nat.le_of_ble_eq_true rfl) dX2_areKnown_65 ⟨Nat.zero_le _, Nat.zero_le _⟩ ?_
                exact z_retS hx hb hr hlocks (nb_mf_isBox ..) (((if_neg t1_0).trans ((if_neg t1_1).trans ((if_neg t1_2).trans ((if_neg t1_3).trans ((if_neg t1_4).trans ((if_neg t1_5).trans ((if_pos t1_6).trans (rfl)))))))).symm) dX2_areKnown_68
              · by_cases t1_7 : sort = 7
                · refine lv_tableIn (off := 88) (tgt := 89) hx hb dX2_areKnown_1 (by rw [t1_7]; decide) (by rw [t1_7]; decide) (by rw [t1_7]; rfl) (by decide) ?_
                  refine lv_iload_n hx hb dX2_areKnown_89 rfl (lv_at hl 1 rfl) ?_
                  refine z_calls (As := [.int a]) (rest := []) XX (cMM_isKind l a) (va_cwS 1 hts gX2_areKnown_X2_isKind rfl rfl rfl qX2_isKind ⟨by decide, by decide⟩) rfl hl.1 rfl (Nat.le_of_ble_eq_true rfl) dX2_areKnown_90 ⟨Nat.zero_le _, Nat.zero_le _⟩ ?_
                  exact z_retS hx hb hr hlocks (nb_mf_isKind ..) (((if_neg t1_0).trans ((if_neg t1_1).trans ((if_neg t1_2).trans ((if_neg t1_3).trans ((if_neg t1_4).trans ((if_neg t1_5).trans ((if_neg t1_6).trans ((if_pos t1_7).trans (rfl))))))))).symm) dX2_areKnown_93
                · by_cases t1_8 : sort = 8
                  · refine lv_tableIn (off := 68) (tgt := 69) hx hb dX2_areKnown_1 (by rw [t1_8]; decide) (by rw [t1_8]; decide) (by rw [t1_8]; rfl) (by decide) ?_
                    refine lv_iload_n hx hb dX2_areKnown_69 rfl (lv_at hl 1 rfl) ?_
                    refine z_calls (As := [.int a]) (rest := []) XX (cMM_isBox l a) (va_cwS 1 hts gX2_areKnown_X2_isBox rfl rfl rfl qX2_isBox ⟨by decide, by decide⟩) rfl hl.1 rfl (Nat.le_of_ble_eq_true rfl) dX2_areKnown_70 ⟨Nat.zero_le _, Nat.zero_le _⟩ ?_
                    refine lv_if_eq (tgt := 87) hx hb dX2_areKnown_73 (by decide) (fun c73 => ?_) (fun c73 => ?_)
                    · refine lv_iconst (v := 0) hx hb dX2_areKnown_87 (by decide) ?_
                      exact z_retS hx hb hr hlocks (rfl) (((if_neg t1_0).trans ((if_neg t1_1).trans ((if_neg t1_2).trans ((if_neg t1_3).trans ((if_neg t1_4).trans ((if_neg t1_5).trans ((if_neg t1_6).trans ((if_neg t1_7).trans ((if_pos t1_8).trans ((if_pos c73).trans (rfl))))))))))).symm) dX2_areKnown_88
                    · refine lv_iload_n hx hb dX2_areKnown_76 rfl (lv_at hl 2 rfl) ?_
                      refine z_calls (As := [.int b]) (rest := []) XX (cMM_isBox l b) (va_cwS 1 hts gX2_areKnown_X2_isBox rfl rfl rfl qX2_isBox ⟨by decide, by decide⟩) rfl hl.1 rfl (Nat.le_of_ble_eq_true rfl) dX2_areKnown_77 ⟨Nat.zero_le _, Nat.zero_le _⟩ ?_
                      refine lv_if_eq (tgt := 87) hx hb dX2_areKnown_80 (by decide) (fun c80 => ?_) (fun c80 => ?_)
                      · refine lv_iconst (v := 0) hx hb dX2_areKnown_87 (by decide) ?_
                        exact z_retS hx hb hr hlocks (rfl) (((if_neg t1_0).trans ((if_neg t1_1).trans ((if_neg t1_2).trans ((if_neg t1_3).trans ((if_neg t1_4).trans ((if_neg t1_5).trans ((if_neg t1_6).trans ((if_neg t1_7).trans ((if_pos t1_8).trans ((if_neg c73).trans ((if_pos c80).trans (rfl)))))))))))).symm) dX2_areKnown_88
                      · refine lv_iconst (v := 1) hx hb dX2_areKnown_83 (by decide) ?_
                        refine lv_goto (tgt := 88) hx hb dX2_areKnown_84 (by decide) ?_
                        exact z_retS hx hb hr hlocks (rfl) (((if_neg t1_0).trans ((if_neg t1_1).trans ((if_neg t1_2).trans ((if_neg t1_3).trans ((if_neg t1_4).trans ((if_neg t1_5).trans ((if_neg t1_6).trans ((if_neg t1_7).trans ((if_pos t1_8).trans ((if_neg c73).trans ((if_neg c80).trans (rfl)))))))))))).symm) dX2_areKnown_88
                  · by_cases t1_9 : sort = 9
                    · refine lv_tableIn (off := 93) (tgt := 94) hx hb dX2_areKnown_1 (by rw [t1_9]; decide) (by rw [t1_9]; decide) (by rw [t1_9]; rfl) (by decide) ?_
                      refine lv_iconst (v := 1) hx hb dX2_areKnown_94 (by decide) ?_
                      exact z_retS hx hb hr hlocks (rfl) (((if_neg t1_0).trans ((if_neg t1_1).trans ((if_neg t1_2).trans ((if_neg t1_3).trans ((if_neg t1_4).trans ((if_neg t1_5).trans ((if_neg t1_6).trans ((if_neg t1_7).trans ((if_neg t1_8).trans ((if_pos t1_9).trans (rfl))))))))))).symm) dX2_areKnown_95
                    · by_cases t1_10 : sort = 10
                      · refine lv_tableIn (off := 63) (tgt := 64) hx hb dX2_areKnown_1 (by rw [t1_10]; decide) (by rw [t1_10]; decide) (by rw [t1_10]; rfl) (by decide) ?_
                        refine lv_iload_n hx hb dX2_areKnown_64 rfl (lv_at hl 1 rfl) ?_
                        refine z_calls (As := [.int a]) (rest := []) XX (cMM_isBox l a) (va_cwS 1 hts gX2_areKnown_X2_isBox rfl rfl rfl qX2_isBox ⟨by decide, by decide⟩) rfl hl.1 rfl (Nat.le_of_ble_eq_true rfl) dX2_areKnown_65 ⟨Nat.zero_le _, Nat.zero_le _⟩ ?_
                        exact z_retS hx hb hr hlocks (nb_mf_isBox ..) (((if_neg t1_0).trans ((if_neg t1_1).trans ((if_neg t1_2).trans ((if_neg t1_3).trans ((if_neg t1_4).trans ((if_neg t1_5).trans ((if_neg t1_6).trans ((if_neg t1_7).trans ((if_neg t1_8).trans ((if_neg t1_9).trans ((if_pos t1_10).trans (rfl)))))))))))).symm) dX2_areKnown_68
                      · by_cases t1_11 : sort = 11
                        · refine lv_tableIn (off := 63) (tgt := 64) hx hb dX2_areKnown_1 (by rw [t1_11]; decide) (by rw [t1_11]; decide) (by rw [t1_11]; rfl) (by decide) ?_
                          refine lv_iload_n hx hb dX2_areKnown_64 rfl (lv_at hl 1 rfl) ?_
                          refine z_calls (As := [.int a]) (rest := []) XX (cMM_isBox l a) (va_cwS 1 hts gX2_areKnown_X2_isBox rfl rfl rfl qX2_isBox ⟨by decide, by decide⟩) rfl hl.1 rfl (Nat.le_of_ble_eq_true rfl) dX2_areKnown_65 ⟨Nat.zero_le _, Nat.zero_le _⟩ ?_
                          exact z_retS hx hb hr hlocks (nb_mf_isBox ..) (((if_neg t1_0).trans ((if_neg t1_1).trans ((if_neg t1_2).trans ((if_neg t1_3).trans ((if_neg t1_4).trans ((if_neg t1_5).trans ((if_neg t1_6).trans ((if_neg t1_7).trans ((if_neg t1_8).trans ((if_neg t1_9).trans ((if_neg t1_10).trans ((if_pos t1_11).trans (rfl))))))))))))).symm) dX2_areKnown_68
                        · refine lv_tableOut (tgt := 94) hx hb dX2_areKnown_1 (z_out 11 (by decide) (fun k hk => match k, hk with | 0, _ => t1_0 | 1, _ => t1_1 | 2, _ => t1_2 | 3, _ => t1_3 | 4, _ => t1_4 | 5, _ => t1_5 | 6, _ => t1_6 | 7, _ => t1_7 | 8, _ => t1_8 | 9, _ => t1_9 | 10, _ => t1_10 | 11, _ => t1_11 | (k + 12), hk => absurd hk (by omega))) (by decide) ?_
                          refine lv_iconst (v := 1) hx hb dX2_areKnown_94 (by decide) ?_
                          exact z_retS hx hb hr hlocks (rfl) (((if_neg t1_0).trans ((if_neg t1_1).trans ((if_neg t1_2).trans ((if_neg t1_3).trans ((if_neg t1_4).trans ((if_neg t1_5).trans ((if_neg t1_6).trans ((if_neg t1_7).trans ((if_neg t1_8).trans ((if_neg t1_9).trans ((if_neg t1_10).trans ((if_neg t1_11).trans (rfl))))))))))))).symm) dX2_areKnown_95
theorem nb_mf_areKnown (sort : Int32) (a : Int32) (b : Int32) : narrow .boolean (.int (mf_areKnown sort a b)) = .int (mf_areKnown sort a b) := by
  unfold mf_areKnown
  repeat' split
  all_goals first | rfl | exact nb_mf_in .. | exact nb_mf_isBox .. | exact nb_mf_isKind ..
theorem m_inE {v lo hi : Int32} (h : ¬ mf_in v lo hi = 0) : ¬ v < lo ∧ ¬ hi < v := by
  unfold mf_in at h
  by_cases h0 : v < lo
  · rw [if_pos h0] at h; exact absurd rfl h
  · rw [if_neg h0] at h
    by_cases h1 : hi < v
    · rw [if_pos h1] at h; exact absurd rfl h
    · exact ⟨h0, h1⟩
theorem m_inR {v hi : Int32} {n : Nat} (hn : n < 2 ^ 31) (e : hi.toInt + 1 = n) (h : ¬ mf_in v 0 hi = 0) : vp_in v n := by
  obtain ⟨h0, h1⟩ := m_inE h
  rw [vp_in_iff]
  rw [Int32.lt_iff_toInt_lt] at h0 h1
  have e0 : (0 : Int32).toInt = 0 := by decide
  omega
theorem mkind_in {k : Int32} (h : ¬ mf_isKind k = 0) : vp_in k 10 := m_inR (by decide) (by decide) h
theorem mbox_in {k : Int32} (h : ¬ mf_isBox k = 0) : vp_in k 6 := m_inR (by decide) (by decide) h
theorem mfk_in {i kp : Int32} (hk : ∃ n, n ≤ 30 ∧ kp = nI n) (h : ¬ mf_in i 0 (kp - 1) = 0) : vp_in i 30 := by
  obtain ⟨n, hn, rfl⟩ := hk
  obtain ⟨h0, h1⟩ := m_inE h
  rw [vp_in_iff]
  rw [Int32.lt_iff_toInt_lt] at h0 h1
  have e0 : (0 : Int32).toInt = 0 := by decide
  have e1 : (nI n - 1).toInt = (n : Int) - 1 := pk_sub_toInt (a := n) (b := 1) (by omega) (by omega)
  omega
theorem mak_in {sort a b : Int32} (h : ¬ mf_areKnown sort a b = 0) (hs : sort = 2 ∨ sort = 7) : vp_in a 10 := by
  rcases hs with rfl | rfl
  · exact mkind_in h
  · exact mkind_in h
theorem z_v16 : vp_in (1 : Int32) 6 := vp_in_nI (n := 1) (by decide) (by decide)
