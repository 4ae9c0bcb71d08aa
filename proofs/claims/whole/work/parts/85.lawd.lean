set_option maxHeartbeats 4000000 in
set_option maxRecDepth 100000 in
theorem lc_failed {p : Program} {l : Launch} {e : Env} {s : State} {m : MethodId} {below : List Frame} {meth : Method} {c : Code} {D : va_G} {b L : Nat} {xs : Nat → Int32} {i : Int32} {cells slots : Nat} {B : Int} {F : Nat} (XX : CallFix p m c cL_law 4 s #[Value.ref b] wsL_law RL) (hX : va_X b L xs s s.heap) (hbl : b < s.heap.size) (hi1 : vp_in (i + 1) L) (hi2 : vp_in (i + 2) L) (hi3 : vp_in (i + 3) L) (hi4 : vp_in (i + 4) L) (hi5 : vp_in (i + 5) L) (hi6 : vp_in (i + 6) L) (hf : cells + 1 ≤ 600000 ∧ slots + 8 ≤ 7302250) (hB : B + 224 ≤ 1000000000) (hF : F + 7 ≤ 1000000) (hk : zAt p l e s m below meth c D b i 509 (cells + 1) (slots + 8) (B + 224) (F + 7)) : zAt p l e s m below meth c D b i 429 cells slots B F := by
  obtain ⟨hx, hb, hml, hown, hts⟩ := id XX
  have hA : ∀ q : Nat, s.heap.size ≤ q → (fun q : Nat => s.heap.size ≤ q) q := fun _ h => h
  have hbA : ¬ (fun q : Nat => s.heap.size ≤ q) b := Nat.not_le.mpr hbl
  intro O K ad O' K' σ μ H locs ls hR hKx hKm hP hD hS hl
  refine lv_aload_n hx hb dL_law_429 rfl (lv_at hl 1 rfl) ?_
  refine zl_rd (j := 1) hx hb hX hbl hbA hS hi1 (lv_at hl 0 rfl) (lv_at hl 3 rfl) dL_law_430 dL_law_431 dL_law_432 (by decide) dL_law_433 dL_law_434 ?_
  refine zl_rd (j := 2) hx hb hX hbl hbA hS hi2 (lv_at hl 0 rfl) (lv_at hl 3 rfl) dL_law_435 dL_law_436 dL_law_437 (by decide) dL_law_438 dL_law_439 ?_
  refine z_fci (w := mW O' K' μ) (w1 := xW O K ad σ) (wf := xW O K ad) (b := O 0) (As := [.int (zN xs i 1), .int (zN xs i 2)]) (rest := []) XX (cx_failed l D O K ad (zN xs i 1) (zN xs i 2) σ H.size) (cwV 2 hts gL_law_X1_failed rfl rfl rfl qX1_failed ⟨Nat.le_of_ble_eq_true rfl, Nat.le_of_ble_eq_true rfl⟩) (va_recv hKx (zP_l hP) (ci := 1) (q0 := 0) rfl rfl) hKx (zP_c hP) (zD_c hD) hS hA rfl hl.1 rfl (Nat.le_of_ble_eq_true rfl) dL_law_440 ⟨(by omega : cells + 0 ≤ 600000), (by omega : slots + 0 ≤ 7302250)⟩ (fun r1 u1 H locs w1 hP hD hS => ?_)
  obtain ⟨e1, e2⟩ := w1
  refine lv_aload_n hx hb dL_law_443 rfl (lv_at hl 2 rfl) ?_
  refine zl_rd (j := 1) hx hb hX hbl hbA hS hi1 (lv_at hl 0 rfl) (lv_at hl 3 rfl) dL_law_444 dL_law_445 dL_law_446 (by decide) dL_law_447 dL_law_448 ?_
  refine zl_rd (j := 2) hx hb hX hbl hbA hS hi2 (lv_at hl 0 rfl) (lv_at hl 3 rfl) dL_law_449 dL_law_450 dL_law_451 (by decide) dL_law_452 dL_law_453 ?_
  refine z_fci (w := xW O K ad u1) (w1 := mW O' K' μ) (wf := mW O' K') (b := O' 0) (As := [.int (zN xs i 1), .int (zN xs i 2)]) (rest := [.int r1]) XX (cMM_failed l D O' K' (zN xs i 1) (zN xs i 2) μ (Rel_kp hR) H.size) (cwV 2 hts gL_law_X2_failed rfl rfl rfl qX2_failed ⟨Nat.le_of_ble_eq_true rfl, Nat.le_of_ble_eq_true rfl⟩) (va_recv hKm (zP_l hP) (ci := 2) (q0 := 0) rfl rfl) hKm (zP_c hP) (zD_c hD) hS hA rfl hl.1 rfl (Nat.le_of_ble_eq_true rfl) dL_law_454 ⟨(by omega : cells + 0 + 0 ≤ 600000), (by omega : slots + 0 + 0 ≤ 7302250)⟩ (fun r2 u2 H locs w2 hP hD hS => ?_)
  obtain ⟨e3, e4⟩ := w2
  refine zl_endi (tgt := 509) hx hb dL_law_457 (by decide) (e1.trans ((sim_failed hR (Nat.le_trans (Nat.le_add_right _ _) hF) (zN xs i 1) (zN xs i 2)).trans e3.symm)) ?_
  refine W.widen (k := cells + 1) (n := slots + 8) (show cells + 0 + 0 ≤ cells + 1 by omega) (show slots + 0 + 0 ≤ slots + 8 by omega) ?_
  exact hk O K ad O' K' u1 u2 H locs ls (by rw [show u1 = σ from e2, show u2 = μ from e4]; exact hR.up (by omega) (by omega)) hKx hKm hP hD hS hl
set_option maxHeartbeats 4000000 in
set_option maxRecDepth 100000 in
theorem lc_value {p : Program} {l : Launch} {e : Env} {s : State} {m : MethodId} {below : List Frame} {meth : Method} {c : Code} {D : va_G} {b L : Nat} {xs : Nat → Int32} {i : Int32} {cells slots : Nat} {B : Int} {F : Nat} (XX : CallFix p m c cL_law 4 s #[Value.ref b] wsL_law RL) (hX : va_X b L xs s s.heap) (hbl : b < s.heap.size) (hi1 : vp_in (i + 1) L) (hi2 : vp_in (i + 2) L) (hi3 : vp_in (i + 3) L) (hi4 : vp_in (i + 4) L) (hi5 : vp_in (i + 5) L) (hi6 : vp_in (i + 6) L) (hf : cells + 1 ≤ 600000 ∧ slots + 8 ≤ 7302250) (hB : B + 224 ≤ 1000000000) (hF : F + 7 ≤ 1000000) (hk : zAt p l e s m below meth c D b i 509 (cells + 1) (slots + 8) (B + 224) (F + 7)) : zAt p l e s m below meth c D b i 462 cells slots B F := by
  obtain ⟨hx, hb, hml, hown, hts⟩ := id XX
  have hA : ∀ q : Nat, s.heap.size ≤ q → (fun q : Nat => s.heap.size ≤ q) q := fun _ h => h
  have hbA : ¬ (fun q : Nat => s.heap.size ≤ q) b := Nat.not_le.mpr hbl
  intro O K ad O' K' σ μ H locs ls hR hKx hKm hP hD hS hl
  refine lv_aload_n hx hb dL_law_462 rfl (lv_at hl 1 rfl) ?_
  refine zl_rd (j := 1) hx hb hX hbl hbA hS hi1 (lv_at hl 0 rfl) (lv_at hl 3 rfl) dL_law_463 dL_law_464 dL_law_465 (by decide) dL_law_466 dL_law_467 ?_
  refine z_fcl (w := mW O' K' μ) (w1 := xW O K ad σ) (wf := xW O K ad) (b := O 0) (As := [.int (zN xs i 1)]) (rest := []) XX (cx_value l D O K ad (zN xs i 1) σ H.size) (cwV 1 hts gL_law_X1_value rfl rfl rfl qX1_value ⟨Nat.le_of_ble_eq_true rfl, Nat.le_of_ble_eq_true rfl⟩) (va_recv hKx (zP_l hP) (ci := 1) (q0 := 0) rfl rfl) hKx (zP_c hP) (zD_c hD) hS hA rfl hl.1 rfl (Nat.le_of_ble_eq_true rfl) dL_law_468 ⟨(by omega : cells + 0 ≤ 600000), (by omega : slots + 0 ≤ 7302250)⟩ (fun r1 u1 H locs w1 hP hD hS => ?_)
  obtain ⟨e1, e2⟩ := w1
  refine lv_aload_n hx hb dL_law_471 rfl (lv_at hl 2 rfl) ?_
  refine zl_rd (j := 1) hx hb hX hbl hbA hS hi1 (lv_at hl 0 rfl) (lv_at hl 3 rfl) dL_law_472 dL_law_473 dL_law_474 (by decide) dL_law_475 dL_law_476 ?_
  refine z_fcl (w := xW O K ad u1) (w1 := mW O' K' μ) (wf := mW O' K') (b := O' 0) (As := [.int (zN xs i 1)]) (rest := [.long r1]) XX (cMM_value l D O' K' (zN xs i 1) μ (Rel_kp hR) H.size) (cwV 1 hts gL_law_X2_value rfl rfl rfl qX2_value ⟨Nat.le_of_ble_eq_true rfl, Nat.le_of_ble_eq_true rfl⟩) (va_recv hKm (zP_l hP) (ci := 2) (q0 := 0) rfl rfl) hKm (zP_c hP) (zD_c hD) hS hA rfl hl.1 rfl (Nat.le_of_ble_eq_true rfl) dL_law_477 ⟨(by omega : cells + 0 + 0 ≤ 600000), (by omega : slots + 0 + 0 ≤ 7302250)⟩ (fun r2 u2 H locs w2 hP hD hS => ?_)
  obtain ⟨e3, e4⟩ := w2
  refine zl_endl (tgt := 509) hx hb dL_law_480 dL_law_481 (by decide) (e1.trans ((sim_value hR (Nat.le_trans (Nat.le_add_right _ _) hF) (zN xs i 1)).trans e3.symm)) ?_
  refine W.widen (k := cells + 1) (n := slots + 8) (show cells + 0 + 0 ≤ cells + 1 by omega) (show slots + 0 + 0 ≤ slots + 8 by omega) ?_
  exact hk O K ad O' K' u1 u2 H locs ls (by rw [show u1 = σ from e2, show u2 = μ from e4]; exact hR.up (by omega) (by omega)) hKx hKm hP hD hS hl
set_option maxHeartbeats 4000000 in
set_option maxRecDepth 100000 in
theorem lc_post {p : Program} {l : Launch} {e : Env} {s : State} {m : MethodId} {below : List Frame} {meth : Method} {c : Code} {D : va_G} {b L : Nat} {xs : Nat → Int32} {i : Int32} {cells slots : Nat} {B : Int} {F : Nat} (XX : CallFix p m c cL_law 4 s #[Value.ref b] wsL_law RL) (hX : va_X b L xs s s.heap) (hbl : b < s.heap.size) (hi1 : vp_in (i + 1) L) (hi2 : vp_in (i + 2) L) (hi3 : vp_in (i + 3) L) (hi4 : vp_in (i + 4) L) (hi5 : vp_in (i + 5) L) (hi6 : vp_in (i + 6) L) (hf : cells + 1 ≤ 600000 ∧ slots + 8 ≤ 7302250) (hB : B + 224 ≤ 1000000000) (hF : F + 7 ≤ 1000000) (hk : zAt p l e s m below meth c D b i 509 (cells + 1) (slots + 8) (B + 224) (F + 7)) : zAt p l e s m below meth c D b i 233 cells slots B F := by
  obtain ⟨hx, hb, hml, hown, hts⟩ := id XX
  have hA : ∀ q : Nat, s.heap.size ≤ q → (fun q : Nat => s.heap.size ≤ q) q := fun _ h => h
  have hbA : ¬ (fun q : Nat => s.heap.size ≤ q) b := Nat.not_le.mpr hbl
  intro O K ad O' K' σ μ H locs ls hR hKx hKm hP hD hS hl
  refine lv_aload_n hx hb dL_law_233 rfl (lv_at hl 1 rfl) ?_
  refine zl_rd (j := 1) hx hb hX hbl hbA hS hi1 (lv_at hl 0 rfl) (lv_at hl 3 rfl) dL_law_234 dL_law_235 dL_law_236 (by decide) dL_law_237 dL_law_238 ?_
  refine zl_rd (j := 2) hx hb hX hbl hbA hS hi2 (lv_at hl 0 rfl) (lv_at hl 3 rfl) dL_law_239 dL_law_240 dL_law_241 (by decide) dL_law_242 dL_law_243 ?_
  refine zl_hi hx hb dL_law_244 dL_law_245 dL_law_247 ?_
  refine zl_rd (j := 3) hx hb hX hbl hbA hS hi3 (lv_at hl 0 rfl) (lv_at hl 3 rfl) dL_law_248 dL_law_249 dL_law_250 (by decide) dL_law_251 dL_law_252 ?_
  refine zl_lo hx hb hown (hts (.constantLong RL 13 4294967295) (List.mem_of_getElem? (i := 6) rfl)) dL_law_253 dL_law_254 dL_law_257 dL_law_258 ?_
  refine z_fci (w := mW O' K' μ) (w1 := xW O K ad σ) (wf := xW O K ad) (b := O 0) (As := [.int (zN xs i 1), .long (zJ (zN xs i 2) (zN xs i 3))]) (rest := []) XX (cx_post l D O K ad (zN xs i 1) (zJ (zN xs i 2) (zN xs i 3)) σ H.size) (cwV 2 hts gL_law_X1_post rfl rfl rfl qX1_post ⟨Nat.le_of_ble_eq_true rfl, Nat.le_of_ble_eq_true rfl⟩) (va_recv hKx (zP_l hP) (ci := 1) (q0 := 0) rfl rfl) hKx (zP_c hP) (zD_c hD) hS hA rfl hl.1 rfl (Nat.le_of_ble_eq_true rfl) dL_law_259 ⟨(by omega : cells + 0 ≤ 600000), (by omega : slots + 0 ≤ 7302250)⟩ (fun r1 u1 H locs w1 hP hD hS => ?_)
  obtain ⟨e1, e2⟩ := w1
  refine lv_aload_n hx hb dL_law_262 rfl (lv_at hl 2 rfl) ?_
  refine zl_rd (j := 1) hx hb hX hbl hbA hS hi1 (lv_at hl 0 rfl) (lv_at hl 3 rfl) dL_law_263 dL_law_264 dL_law_265 (by decide) dL_law_266 dL_law_267 ?_
  refine zl_rd (j := 2) hx hb hX hbl hbA hS hi2 (lv_at hl 0 rfl) (lv_at hl 3 rfl) dL_law_268 dL_law_269 dL_law_270 (by decide) dL_law_271 dL_law_272 ?_
  refine zl_hi hx hb dL_law_273 dL_law_274 dL_law_276 ?_
  refine zl_rd (j := 3) hx hb hX hbl hbA hS hi3 (lv_at hl 0 rfl) (lv_at hl 3 rfl) dL_law_277 dL_law_278 dL_law_279 (by decide) dL_law_280 dL_law_281 ?_
  refine zl_lo hx hb hown (hts (.constantLong RL 13 4294967295) (List.mem_of_getElem? (i := 6) rfl)) dL_law_282 dL_law_283 dL_law_286 dL_law_287 ?_
  refine z_fci (w := xW O K ad u1) (w1 := mW O' K' μ) (wf := mW O' K') (b := O' 0) (As := [.int (zN xs i 1), .long (zJ (zN xs i 2) (zN xs i 3))]) (rest := [.int r1]) XX (cMM_post l D O' K' (zN xs i 1) (zJ (zN xs i 2) (zN xs i 3)) μ (Rel_szL hR) H.size) (cwV 2 hts gL_law_X2_post rfl rfl rfl qX2_post ⟨Nat.le_of_ble_eq_true rfl, Nat.le_of_ble_eq_true rfl⟩) (va_recv hKm (zP_l hP) (ci := 2) (q0 := 0) rfl rfl) hKm (zP_c hP) (zD_c hD) hS hA rfl hl.1 rfl (Nat.le_of_ble_eq_true rfl) dL_law_288 ⟨(by omega : cells + 0 + 0 ≤ 600000), (by omega : slots + 0 + 0 ≤ 7302250)⟩ (fun r2 u2 H locs w2 hP hD hS => ?_)
  obtain ⟨e3, e4⟩ := w2
  refine zl_endi (tgt := 509) hx hb dL_law_291 (by decide) (e1.trans ((sim_post hR (zN xs i 1) (zJ (zN xs i 2) (zN xs i 3))).1.trans e3.symm)) ?_
  refine W.widen (k := cells + 1) (n := slots + 8) (show cells + 0 + 0 ≤ cells + 1 by omega) (show slots + 0 + 0 ≤ slots + 8 by omega) ?_
  exact hk O K ad O' K' u1 u2 H locs ls (by rw [e2, e4]; exact (sim_post hR (zN xs i 1) (zJ (zN xs i 2) (zN xs i 3))).2.up (by omega) (by omega)) hKx hKm hP hD hS hl
