theorem Rel_init : Rel 0 0 xInit mInit := by
  obtain ⟨S, e, hS⟩ := mI
  rw [e]
  refine ⟨Rel_c.mpr ?_, ?_, ?_⟩
  · rw [mr_su_st, mr_su_many, mr_su_as, mr_su_so, mr_su_so, mr_co_st, mr_co_many, mr_co_as, mr_co_so, mr_co_so, mw_st, mr_so_st, mr_so_many, mr_so_as, mw_so, mr_as_st, mr_as_many, mw_as, mr_ki_st, mr_ki_many, mr_ki_as, mr_ki_so, mr_ki_so, mr_bs_st, mr_bs_many, mr_bs_as, mr_bs_so, mr_bs_so, mr_cs_st, mr_cs_many, mr_cs_as, mr_cs_so, mr_cs_so, mr_fo_st, mr_fo_many, mr_fo_as, mr_fo_so, mr_fo_so, mr_ot_st, mr_ot_many, mr_ot_as, mr_ot_so, mr_ot_so, mr_le_st, mr_le_many, mr_le_as, mr_le_so, mr_le_so, mr_sz_st, mr_sz_many, mr_sz_as, mr_sz_so, mr_sz_so, mr_qk_st, mr_qk_many, mr_qk_as, mr_qk_so, mr_qk_so, mr_qv_st, mr_qv_many, mr_qv_as, mr_qv_so, mr_qv_so]
    refine ⟨fun i hi => ⟨rfl, rfl, 0, nI_0.symm, by omega⟩, fun k hk => ?_, fun i hi => ?_, ⟨by rw [xI_n]; omega, xok_init.1, xok_init.2⟩, ⟨0, 0, rfl, by omega, rfl, rfl, by omega, fun i hi => absurd hi (by omega)⟩, ⟨rfl, rfl, by omega⟩, rfl, by omega⟩
    · rw [hS k hk]
      rcases (show k = 0 ∨ k = 1 ∨ 2 ≤ k by omega) with rfl | rfl | q
      · rfl
      · rfl
      · rw [if_neg (by omega)]
        have e1 : x_hd xInit k = none := by
          unfold xInit x01
          rw [xPush_hd, va_up_ne _ _ (show k ≠ (1 : Int32).toNatClampNeg from fun z => absurd (z.trans (show (1 : Int32).toNatClampNeg = 1 by decide)) (by omega)), xPush_hd, va_up_ne _ _ (show k ≠ (0 : Int32).toNatClampNeg from fun z => absurd (z.trans (show (0 : Int32).toNatClampNeg = 0 by decide)) (by omega))]
          rfl
        rw [e1]
        rfl
    · rw [xI_n] at hi
      rcases (show i = 0 ∨ i = 1 by omega) with rfl | rfl
      · rw [xI_tab0]
        exact ⟨rfl, rfl, Or.inl ⟨rfl, vp_in_nI (n := 0) (by decide) (by decide), by omega⟩⟩
      · rw [xI_tab1]
        exact ⟨rfl, rfl, Or.inr (Or.inl ⟨rfl, rfl, rfl, rfl, by omega⟩)⟩
  · unfold rRest
    rw [mr_many_st, mw_many, mr_tk_st, mr_tk_many, mr_tk_as, mr_tk_so, mr_tk_so, mr_fe_st, mr_fe_many, mr_fe_as, mr_fe_so, mr_fe_so, mr_kp_st, mr_kp_many, mr_kp_as, mr_kp_so, mr_kp_so, mr_kk_st, mr_kk_many, mr_kk_as, mr_kk_so, mr_kk_so, mr_kf_st, mr_kf_many, mr_kf_as, mr_kf_so, mr_kf_so, mr_kv_st, mr_kv_many, mr_kv_as, mr_kv_so, mr_kv_so, xI_n]
    exact ⟨rfl, by omega, rfl, rfl, 0, by omega, rfl, rfl, rfl, fun i hi => absurd hi (by omega)⟩
  · rw [mr_la_st, mr_la_many, mr_la_as, mr_la_so, mr_la_so]
    rfl
