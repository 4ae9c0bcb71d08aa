set_option maxHeartbeats 4000000 in
set_option maxRecDepth 100000 in
theorem lc_give {p : Program} {l : Launch} {e : Env} {s : State} {m : MethodId} {below : List Frame} {meth : Method} {c : Code} {D : va_G} {b L : Nat} {xs : Nat → Int32} {i : Int32} {cells slots : Nat} {B : Int} {F : Nat} (XX : CallFix p m c cL_law 4 s #[Value.ref b] wsL_law RL) (hX : va_X b L xs s s.heap) (hbl : b < s.heap.size) (hi1 : vp_in (i + 1) L) (hi2 : vp_in (i + 2) L) (hi3 : vp_in (i + 3) L) (hi4 : vp_in (i + 4) L) (hi5 : vp_in (i + 5) L) (hi6 : vp_in (i + 6) L) (hf : cells + 1 ≤ 600000 ∧ slots + 8 ≤ 7302250) (hB : B + 224 ≤ 1000000000) (hF : F + 7 ≤ 1000000) (hk : zAt p l e s m below meth c D b i 509 (cells + 1) (slots + 8) (B + 224) (F + 7)) : zAt p l e s m below meth c D b i 319 cells slots B F := by
  obtain ⟨hx, hb, hml, hown, hts⟩ := id XX
  have hA : ∀ q : Nat, s.heap.size ≤ q → (fun q : Nat => s.heap.size ≤ q) q := fun _ h => h
  have hbA : ¬ (fun q : Nat => s.heap.size ≤ q) b := Nat.not_le.mpr hbl
  intro O K ad O' K' σ μ H locs ls hR hKx hKm hP hD hS hl
  refine lv_aload_n hx hb dL_law_319 rfl (lv_at hl 1 rfl) ?_
  refine zl_rd (j := 1) hx hb hX hbl hbA hS hi1 (lv_at hl 0 rfl) (lv_at hl 3 rfl) dL_law_320 dL_law_321 dL_law_322 (by decide) dL_law_323 dL_law_324 ?_
  refine zl_rd (j := 2) hx hb hX hbl hbA hS hi2 (lv_at hl 0 rfl) (lv_at hl 3 rfl) dL_law_325 dL_law_326 dL_law_327 (by decide) dL_law_328 dL_law_329 ?_
  refine zl_hi hx hb dL_law_330 dL_law_331 dL_law_333 ?_
  refine zl_rd (j := 3) hx hb hX hbl hbA hS hi3 (lv_at hl 0 rfl) (lv_at hl 3 rfl) dL_law_334 dL_law_335 dL_law_336 (by decide) dL_law_337 dL_law_338 ?_
  refine zl_lo hx hb hown (hts (.constantLong RL 13 4294967295) (List.mem_of_getElem? (i := 6) rfl)) dL_law_339 dL_law_340 dL_law_343 dL_law_344 ?_
  obtain ⟨RR, hg, hr1, hR1⟩ := sim_give hR (by omega) (zN xs i 1) (zJ (zN xs i 2) (zN xs i 3))
  refine z_fci (w := mW O' K' μ) (w1 := xW O K ad σ) (wf := xW O K ad) (b := O 0) (As := [.int (zN xs i 1), .long (zJ (zN xs i 2) (zN xs i 3))]) (rest := []) XX (cx_give l D O K ad (zN xs i 1) (zJ (zN xs i 2) (zN xs i 3)) σ hR.okk H.size) (cwV 2 hts gL_law_X1_give rfl rfl rfl qX1_give ⟨Nat.le_of_ble_eq_true rfl, Nat.le_of_ble_eq_true rfl⟩) (va_recv hKx (zP_l hP) (ci := 1) (q0 := 0) rfl rfl) hKx (zP_c hP) (zD_c hD) hS hA rfl hl.1 rfl (Nat.le_of_ble_eq_true rfl) dL_law_345 ⟨(by omega : cells + 0 ≤ 600000), (by omega : slots + 0 ≤ 7302250)⟩ (fun r1 u1 H locs w1 hP hD hS => ?_)
  obtain ⟨e1, e2⟩ := w1
  refine lv_aload_n hx hb dL_law_348 rfl (lv_at hl 2 rfl) ?_
  refine zl_rd (j := 1) hx hb hX hbl hbA hS hi1 (lv_at hl 0 rfl) (lv_at hl 3 rfl) dL_law_349 dL_law_350 dL_law_351 (by decide) dL_law_352 dL_law_353 ?_
  refine zl_rd (j := 2) hx hb hX hbl hbA hS hi2 (lv_at hl 0 rfl) (lv_at hl 3 rfl) dL_law_354 dL_law_355 dL_law_356 (by decide) dL_law_357 dL_law_358 ?_
  refine zl_hi hx hb dL_law_359 dL_law_360 dL_law_362 ?_
  refine zl_rd (j := 3) hx hb hX hbl hbA hS hi3 (lv_at hl 0 rfl) (lv_at hl 3 rfl) dL_law_363 dL_law_364 dL_law_365 (by decide) dL_law_366 dL_law_367 ?_
  refine zl_lo hx hb hown (hts (.constantLong RL 13 4294967295) (List.mem_of_getElem? (i := 6) rfl)) dL_law_368 dL_law_369 dL_law_372 dL_law_373 ?_
  refine z_fci (w := xW O K ad u1) (w1 := mW O' K' μ) (wf := mW O' K') (b := O' 0) (As := [.int (zN xs i 1), .long (zJ (zN xs i 2) (zN xs i 3))]) (rest := [.int r1]) XX (cMM_give l D O' K' (zN xs i 1) (zJ (zN xs i 2) (zN xs i 3)) μ RR hg H.size) (cwV 2 hts gL_law_X2_give rfl rfl rfl qX2_give ⟨Nat.le_of_ble_eq_true rfl, Nat.le_of_ble_eq_true rfl⟩) (va_recv hKm (zP_l hP) (ci := 2) (q0 := 0) rfl rfl) hKm (zP_c hP) (zD_c hD) hS hA rfl hl.1 rfl (Nat.le_of_ble_eq_true rfl) dL_law_374 ⟨(by omega : cells + 0 + 0 ≤ 600000), (by omega : slots + 0 + 0 ≤ 7302250)⟩ (fun r2 u2 H locs w2 hP hD hS => ?_)
  obtain ⟨e3, e4⟩ := w2
  refine zl_endi (tgt := 509) hx hb dL_law_377 (by decide) (e1.trans (hr1.symm.trans e3.symm)) ?_
  refine W.widen (k := cells + 1) (n := slots + 8) (show cells + 0 + 0 ≤ cells + 1 by omega) (show slots + 0 + 0 ≤ slots + 8 by omega) ?_
  exact hk O K ad O' K' u1 u2 H locs ls (by rw [e2, e4]; exact hR1.up (by omega) (by omega)) hKx hKm hP hD hS hl
set_option maxHeartbeats 4000000 in
set_option maxRecDepth 100000 in
theorem lc_take {p : Program} {l : Launch} {e : Env} {s : State} {m : MethodId} {below : List Frame} {meth : Method} {c : Code} {D : va_G} {b L : Nat} {xs : Nat → Int32} {i : Int32} {cells slots : Nat} {B : Int} {F : Nat} (XX : CallFix p m c cL_law 4 s #[Value.ref b] wsL_law RL) (hX : va_X b L xs s s.heap) (hbl : b < s.heap.size) (hi1 : vp_in (i + 1) L) (hi2 : vp_in (i + 2) L) (hi3 : vp_in (i + 3) L) (hi4 : vp_in (i + 4) L) (hi5 : vp_in (i + 5) L) (hi6 : vp_in (i + 6) L) (hf : cells + 1 ≤ 600000 ∧ slots + 8 ≤ 7302250) (hB : B + 224 ≤ 1000000000) (hF : F + 7 ≤ 1000000) (hk : zAt p l e s m below meth c D b i 509 (cells + 1) (slots + 8) (B + 224) (F + 7)) : zAt p l e s m below meth c D b i 296 cells slots B F := by
  obtain ⟨hx, hb, hml, hown, hts⟩ := id XX
  have hA : ∀ q : Nat, s.heap.size ≤ q → (fun q : Nat => s.heap.size ≤ q) q := fun _ h => h
  have hbA : ¬ (fun q : Nat => s.heap.size ≤ q) b := Nat.not_le.mpr hbl
  intro O K ad O' K' σ μ H locs ls hR hKx hKm hP hD hS hl
  refine lv_aload_n hx hb dL_law_296 rfl (lv_at hl 1 rfl) ?_
  refine zl_rd (j := 1) hx hb hX hbl hbA hS hi1 (lv_at hl 0 rfl) (lv_at hl 3 rfl) dL_law_297 dL_law_298 dL_law_299 (by decide) dL_law_300 dL_law_301 ?_
  obtain ⟨RR, hg, hr1, hR1⟩ := sim_take hR (by omega) hF (zN xs i 1)
  refine z_fci (w := mW O' K' μ) (w1 := xW O K ad σ) (wf := xW O K ad) (b := O 0) (As := [.int (zN xs i 1)]) (rest := []) XX (cx_take l D O K ad (zN xs i 1) σ hR.okk H.size) (cwV 1 hts gL_law_X1_take rfl rfl rfl qX1_take ⟨Nat.le_of_ble_eq_true rfl, Nat.le_of_ble_eq_true rfl⟩) (va_recv hKx (zP_l hP) (ci := 1) (q0 := 0) rfl rfl) hKx (zP_c hP) (zD_c hD) hS hA rfl hl.1 rfl (Nat.le_of_ble_eq_true rfl) dL_law_302 ⟨(by omega : cells + 0 ≤ 600000), (by omega : slots + 0 ≤ 7302250)⟩ (fun r1 u1 H locs w1 hP hD hS => ?_)
  obtain ⟨e1, e2⟩ := w1
  refine lv_aload_n hx hb dL_law_305 rfl (lv_at hl 2 rfl) ?_
  refine zl_rd (j := 1) hx hb hX hbl hbA hS hi1 (lv_at hl 0 rfl) (lv_at hl 3 rfl) dL_law_306 dL_law_307 dL_law_308 (by decide) dL_law_309 dL_law_310 ?_
  refine z_fci (w := xW O K ad u1) (w1 := mW O' K' μ) (wf := mW O' K') (b := O' 0) (As := [.int (zN xs i 1)]) (rest := [.int r1]) XX (cMM_take l D O' K' (zN xs i 1) μ RR hg H.size) (cwV 1 hts gL_law_X2_take rfl rfl rfl qX2_take ⟨Nat.le_of_ble_eq_true rfl, Nat.le_of_ble_eq_true rfl⟩) (va_recv hKm (zP_l hP) (ci := 2) (q0 := 0) rfl rfl) hKm (zP_c hP) (zD_c hD) hS hA rfl hl.1 rfl (Nat.le_of_ble_eq_true rfl) dL_law_311 ⟨(by omega : cells + 0 + 0 ≤ 600000), (by omega : slots + 0 + 0 ≤ 7302250)⟩ (fun r2 u2 H locs w2 hP hD hS => ?_)
  obtain ⟨e3, e4⟩ := w2
  refine zl_endi (tgt := 509) hx hb dL_law_314 (by decide) (e1.trans (hr1.symm.trans e3.symm)) ?_
  refine W.widen (k := cells + 1) (n := slots + 8) (show cells + 0 + 0 ≤ cells + 1 by omega) (show slots + 0 + 0 ≤ slots + 8 by omega) ?_
  exact hk O K ad O' K' u1 u2 H locs ls (by rw [e2, e4]; exact hR1.up (by omega) (by omega)) hKx hKm hP hD hS hl
set_option maxHeartbeats 4000000 in
set_option maxRecDepth 100000 in
theorem lc_handle {p : Program} {l : Launch} {e : Env} {s : State} {m : MethodId} {below : List Frame} {meth : Method} {c : Code} {D : va_G} {b L : Nat} {xs : Nat → Int32} {i : Int32} {cells slots : Nat} {B : Int} {F : Nat} (XX : CallFix p m c cL_law 4 s #[Value.ref b] wsL_law RL) (hX : va_X b L xs s s.heap) (hbl : b < s.heap.size) (hi1 : vp_in (i + 1) L) (hi2 : vp_in (i + 2) L) (hi3 : vp_in (i + 3) L) (hi4 : vp_in (i + 4) L) (hi5 : vp_in (i + 5) L) (hi6 : vp_in (i + 6) L) (hf : cells + 1 ≤ 600000 ∧ slots + 8 ≤ 7302250) (hB : B + 224 ≤ 1000000000) (hF : F + 7 ≤ 1000000) (hk : zAt p l e s m below meth c D b i 509 (cells + 1) (slots + 8) (B + 224) (F + 7)) : zAt p l e s m below meth c D b i 92 cells slots B F := by
  obtain ⟨hx, hb, hml, hown, hts⟩ := id XX
  have hA : ∀ q : Nat, s.heap.size ≤ q → (fun q : Nat => s.heap.size ≤ q) q := fun _ h => h
  have hbA : ¬ (fun q : Nat => s.heap.size ≤ q) b := Nat.not_le.mpr hbl
  intro O K ad O' K' σ μ H locs ls hR hKx hKm hP hD hS hl
  refine lv_aload_n hx hb dL_law_92 rfl (lv_at hl 1 rfl) ?_
  refine zl_rd (j := 1) hx hb hX hbl hbA hS hi1 (lv_at hl 0 rfl) (lv_at hl 3 rfl) dL_law_93 dL_law_94 dL_law_95 (by decide) dL_law_96 dL_law_97 ?_
  refine zl_rd (j := 2) hx hb hX hbl hbA hS hi2 (lv_at hl 0 rfl) (lv_at hl 3 rfl) dL_law_98 dL_law_99 dL_law_100 (by decide) dL_law_101 dL_law_102 ?_
  refine zl_rd (j := 3) hx hb hX hbl hbA hS hi3 (lv_at hl 0 rfl) (lv_at hl 3 rfl) dL_law_103 dL_law_104 dL_law_105 (by decide) dL_law_106 dL_law_107 ?_
  refine zl_rd (j := 4) hx hb hX hbl hbA hS hi4 (lv_at hl 0 rfl) (lv_at hl 3 rfl) dL_law_108 dL_law_109 dL_law_110 (by decide) dL_law_111 dL_law_112 ?_
  refine zl_rd (j := 5) hx hb hX hbl hbA hS hi5 (lv_at hl 0 rfl) (lv_at hl 3 rfl) dL_law_113 dL_law_114 dL_law_115 (by decide) dL_law_116 dL_law_117 ?_
  refine zl_hi hx hb dL_law_118 dL_law_119 dL_law_121 ?_
  refine zl_rd6 (j := 6) hx hb hX hbl hbA hS hi6 (lv_at hl 0 rfl) (lv_at hl 3 rfl) dL_law_122 dL_law_123 dL_law_124 (by decide) dL_law_126 dL_law_127 ?_
  refine zl_lo hx hb hown (hts (.constantLong RL 13 4294967295) (List.mem_of_getElem? (i := 6) rfl)) dL_law_128 dL_law_129 dL_law_132 dL_law_133 ?_
  refine z_fci (w := mW O' K' μ) (w1 := xW O K ad σ) (wf := fun u9 : SX × (Nat → Nat) => xW O K u9.2 u9.1) (b := O 0) (As := [.int (zN xs i 1), .int (zN xs i 2), .int (zN xs i 3), .int (zN xs i 4), .long (zJ (zN xs i 5) (zN xs i 6))]) (rest := []) XX (cx_handle l D O K ad (zN xs i 1) (zN xs i 2) (zN xs i 3) (zN xs i 4) (zJ (zN xs i 5) (zN xs i 6)) σ hR.okk H.size) (cwV 5 hts gL_law_X1_handle rfl rfl rfl qX1_handle ⟨Nat.le_of_ble_eq_true rfl, Nat.le_of_ble_eq_true rfl⟩) (va_recv hKx (zP_l hP) (ci := 1) (q0 := 0) rfl rfl) hKx (zP_c hP) (zD_c hD) hS hA rfl hl.1 rfl (Nat.le_of_ble_eq_true rfl) dL_law_134 ⟨(by omega : cells + 1 ≤ 600000), (by omega : slots + 8 ≤ 7302250)⟩ (fun r1 u1 H locs w1 hP hD hS => ?_)
  obtain ⟨u1, ad1⟩ := u1
  obtain ⟨e1, e2⟩ := w1
  have e2 : u1 = (xf_handle (zN xs i 1) (zN xs i 2) (zN xs i 3) (zN xs i 4) (zJ (zN xs i 5) (zN xs i 6)) σ).2 := e2
  have hP : va_P D vwCl (mW O' K' μ ++ xW O K ad1 u1) H := hP
  have hD : va_D (fun q : Nat => s.heap.size ≤ q) (mW O' K' μ ++ xW O K ad1 u1) := hD
  refine lv_aload_n hx hb dL_law_137 rfl (lv_at hl 2 rfl) ?_
  refine zl_rd (j := 1) hx hb hX hbl hbA hS hi1 (lv_at hl 0 rfl) (lv_at hl 3 rfl) dL_law_138 dL_law_139 dL_law_140 (by decide) dL_law_141 dL_law_142 ?_
  refine zl_rd (j := 2) hx hb hX hbl hbA hS hi2 (lv_at hl 0 rfl) (lv_at hl 3 rfl) dL_law_143 dL_law_144 dL_law_145 (by decide) dL_law_146 dL_law_147 ?_
  refine zl_rd (j := 3) hx hb hX hbl hbA hS hi3 (lv_at hl 0 rfl) (lv_at hl 3 rfl) dL_law_148 dL_law_149 dL_law_150 (by decide) dL_law_151 dL_law_152 ?_
  refine zl_rd (j := 4) hx hb hX hbl hbA hS hi4 (lv_at hl 0 rfl) (lv_at hl 3 rfl) dL_law_153 dL_law_154 dL_law_155 (by decide) dL_law_156 dL_law_157 ?_
  refine zl_rd (j := 5) hx hb hX hbl hbA hS hi5 (lv_at hl 0 rfl) (lv_at hl 3 rfl) dL_law_158 dL_law_159 dL_law_160 (by decide) dL_law_161 dL_law_162 ?_
  refine zl_hi hx hb dL_law_163 dL_law_164 dL_law_166 ?_
  refine zl_rd6 (j := 6) hx hb hX hbl hbA hS hi6 (lv_at hl 0 rfl) (lv_at hl 3 rfl) dL_law_167 dL_law_168 dL_law_169 (by decide) dL_law_171 dL_law_172 ?_
  refine zl_lo hx hb hown (hts (.constantLong RL 13 4294967295) (List.mem_of_getElem? (i := 6) rfl)) dL_law_173 dL_law_174 dL_law_177 dL_law_178 ?_
  refine z_fci (w := xW O K ad1 u1) (w1 := mW O' K' μ) (wf := mW O' K') (b := O' 0) (As := [.int (zN xs i 1), .int (zN xs i 2), .int (zN xs i 3), .int (zN xs i 4), .long (zJ (zN xs i 5) (zN xs i 6))]) (rest := [.int r1]) XX (cMM_handle l D O' K' (zN xs i 1) (zN xs i 2) (zN xs i 3) (zN xs i 4) (zJ (zN xs i 5) (zN xs i 6)) μ (Rel_many hR) H.size) (cwV 5 hts gL_law_X2_handle rfl rfl rfl qX2_handle ⟨Nat.le_of_ble_eq_true rfl, Nat.le_of_ble_eq_true rfl⟩) (va_recv hKm (zP_l hP) (ci := 2) (q0 := 0) rfl rfl) hKm (zP_c hP) (zD_c hD) hS hA rfl hl.1 rfl (Nat.le_of_ble_eq_true rfl) dL_law_179 ⟨(by omega : cells + 1 + 0 ≤ 600000), (by omega : slots + 8 + 0 ≤ 7302250)⟩ (fun r2 u2 H locs w2 hP hD hS => ?_)
  obtain ⟨e3, e4⟩ := w2
  refine zl_endi (tgt := 509) hx hb dL_law_182 (by decide) (e1.trans ((sim_handle hR (zN xs i 1) (zN xs i 2) (zN xs i 3) (zN xs i 4) (zJ (zN xs i 5) (zN xs i 6))).1.trans e3.symm)) ?_
  refine W.widen (k := cells + 1) (n := slots + 8) (show cells + 1 + 0 ≤ cells + 1 by omega) (show slots + 8 + 0 ≤ slots + 8 by omega) ?_
  exact hk O K ad1 O' K' u1 u2 H locs ls (by rw [e2, e4]; exact (sim_handle hR (zN xs i 1) (zN xs i 2) (zN xs i 3) (zN xs i 4) (zJ (zN xs i 5) (zN xs i 6))).2.up (by omega) (by omega)) hKx hKm hP hD hS hl
