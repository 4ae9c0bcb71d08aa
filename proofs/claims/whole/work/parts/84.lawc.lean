set_option maxHeartbeats 4000000 in
set_option maxRecDepth 100000 in
theorem lc_has {p : Program} {l : Launch} {e : Env} {s : State} {m : MethodId} {below : List Frame} {meth : Method} {c : Code} {D : va_G} {b L : Nat} {xs : Nat → Int32} {i : Int32} {cells slots : Nat} {B : Int} {F : Nat} (XX : CallFix p m c cL_law 4 s #[Value.ref b] wsL_law RL) (hX : va_X b L xs s s.heap) (hbl : b < s.heap.size) (hi1 : vp_in (i + 1) L) (hi2 : vp_in (i + 2) L) (hi3 : vp_in (i + 3) L) (hi4 : vp_in (i + 4) L) (hi5 : vp_in (i + 5) L) (hi6 : vp_in (i + 6) L) (hf : cells + 1 ≤ 600000 ∧ slots + 8 ≤ 7302250) (hB : B + 224 ≤ 1000000000) (hF : F + 7 ≤ 1000000) (hk : zAt p l e s m below meth c D b i 509 (cells + 1) (slots + 8) (B + 224) (F + 7)) : zAt p l e s m below meth c D b i 210 cells slots B F := by
  obtain ⟨hx, hb, hml, hown, hts⟩ := id XX
  have hA : ∀ q : Nat, s.heap.size ≤ q → (fun q : Nat => s.heap.size ≤ q) q := fun _ h => h
  have hbA : ¬ (fun q : Nat => s.heap.size ≤ q) b := Nat.not_le.mpr hbl
  intro O K ad O' K' σ μ H locs ls hR hKx hKm hP hD hS hl
  refine lv_aload_n hx hb dL_law_210 rfl (lv_at hl 1 rfl) ?_
  refine zl_rd (j := 1) hx hb hX hbl hbA hS hi1 (lv_at hl 0 rfl) (lv_at hl 3 rfl) dL_law_211 dL_law_212 dL_law_213 (by decide) dL_law_214 dL_law_215 ?_
  refine z_fci (w := mW O' K' μ) (w1 := xW O K ad σ) (wf := xW O K ad) (b := O 0) (As := [.int (zN xs i 1)]) (rest := []) XX (cx_has l D O K ad (zN xs i 1) σ H.size) (cwV 1 hts gL_law_X1_has rfl rfl rfl qX1_has ⟨Nat.le_of_ble_eq_true rfl, Nat.le_of_ble_eq_true rfl⟩) (va_recv hKx (zP_l hP) (ci := 1) (q0 := 0) rfl rfl) hKx (zP_c hP) (zD_c hD) hS hA rfl hl.1 rfl (Nat.le_of_ble_eq_true rfl) dL_law_216 ⟨(by omega : cells + 0 ≤ 600000), (by omega : slots + 0 ≤ 7302250)⟩ (fun r1 u1 H locs w1 hP hD hS => ?_)
  obtain ⟨e1, e2⟩ := w1
  refine lv_aload_n hx hb dL_law_219 rfl (lv_at hl 2 rfl) ?_
  refine zl_rd (j := 1) hx hb hX hbl hbA hS hi1 (lv_at hl 0 rfl) (lv_at hl 3 rfl) dL_law_220 dL_law_221 dL_law_222 (by decide) dL_law_223 dL_law_224 ?_
  refine z_fci (w := xW O K ad u1) (w1 := mW O' K' μ) (wf := mW O' K') (b := O' 0) (As := [.int (zN xs i 1)]) (rest := [.int r1]) XX (cMM_has l D O' K' (zN xs i 1) μ  H.size) (cwV 1 hts gL_law_X2_has rfl rfl rfl qX2_has ⟨Nat.le_of_ble_eq_true rfl, Nat.le_of_ble_eq_true rfl⟩) (va_recv hKm (zP_l hP) (ci := 2) (q0 := 0) rfl rfl) hKm (zP_c hP) (zD_c hD) hS hA rfl hl.1 rfl (Nat.le_of_ble_eq_true rfl) dL_law_225 ⟨(by omega : cells + 0 + 0 ≤ 600000), (by omega : slots + 0 + 0 ≤ 7302250)⟩ (fun r2 u2 H locs w2 hP hD hS => ?_)
  obtain ⟨e3, e4⟩ := w2
  refine zl_endi (tgt := 509) hx hb dL_law_228 (by decide) (e1.trans ((sim_has hR (zN xs i 1)).trans e3.symm)) ?_
  refine W.widen (k := cells + 1) (n := slots + 8) (show cells + 0 + 0 ≤ cells + 1 by omega) (show slots + 0 + 0 ≤ slots + 8 by omega) ?_
  exact hk O K ad O' K' u1 u2 H locs ls (by rw [show u1 = σ from e2, show u2 = μ from e4]; exact hR.up (by omega) (by omega)) hKx hKm hP hD hS hl
set_option maxHeartbeats 4000000 in
set_option maxRecDepth 100000 in
theorem lc_drop {p : Program} {l : Launch} {e : Env} {s : State} {m : MethodId} {below : List Frame} {meth : Method} {c : Code} {D : va_G} {b L : Nat} {xs : Nat → Int32} {i : Int32} {cells slots : Nat} {B : Int} {F : Nat} (XX : CallFix p m c cL_law 4 s #[Value.ref b] wsL_law RL) (hX : va_X b L xs s s.heap) (hbl : b < s.heap.size) (hi1 : vp_in (i + 1) L) (hi2 : vp_in (i + 2) L) (hi3 : vp_in (i + 3) L) (hi4 : vp_in (i + 4) L) (hi5 : vp_in (i + 5) L) (hi6 : vp_in (i + 6) L) (hf : cells + 1 ≤ 600000 ∧ slots + 8 ≤ 7302250) (hB : B + 224 ≤ 1000000000) (hF : F + 7 ≤ 1000000) (hk : zAt p l e s m below meth c D b i 509 (cells + 1) (slots + 8) (B + 224) (F + 7)) : zAt p l e s m below meth c D b i 187 cells slots B F := by
  obtain ⟨hx, hb, hml, hown, hts⟩ := id XX
  have hA : ∀ q : Nat, s.heap.size ≤ q → (fun q : Nat => s.heap.size ≤ q) q := fun _ h => h
  have hbA : ¬ (fun q : Nat => s.heap.size ≤ q) b := Nat.not_le.mpr hbl
  intro O K ad O' K' σ μ H locs ls hR hKx hKm hP hD hS hl
  refine lv_aload_n hx hb dL_law_187 rfl (lv_at hl 1 rfl) ?_
  refine zl_rd (j := 1) hx hb hX hbl hbA hS hi1 (lv_at hl 0 rfl) (lv_at hl 3 rfl) dL_law_188 dL_law_189 dL_law_190 (by decide) dL_law_191 dL_law_192 ?_
  refine z_fci (w := mW O' K' μ) (w1 := xW O K ad σ) (wf := xW O K ad) (b := O 0) (As := [.int (zN xs i 1)]) (rest := []) XX (cx_drop l D O K ad (zN xs i 1) σ H.size) (cwV 1 hts gL_law_X1_drop rfl rfl rfl qX1_drop ⟨Nat.le_of_ble_eq_true rfl, Nat.le_of_ble_eq_true rfl⟩) (va_recv hKx (zP_l hP) (ci := 1) (q0 := 0) rfl rfl) hKx (zP_c hP) (zD_c hD) hS hA rfl hl.1 rfl (Nat.le_of_ble_eq_true rfl) dL_law_193 ⟨(by omega : cells + 0 ≤ 600000), (by omega : slots + 0 ≤ 7302250)⟩ (fun r1 u1 H locs w1 hP hD hS => ?_)
  obtain ⟨e1, e2⟩ := w1
  refine lv_aload_n hx hb dL_law_196 rfl (lv_at hl 2 rfl) ?_
  refine zl_rd (j := 1) hx hb hX hbl hbA hS hi1 (lv_at hl 0 rfl) (lv_at hl 3 rfl) dL_law_197 dL_law_198 dL_law_199 (by decide) dL_law_200 dL_law_201 ?_
  refine z_fci (w := xW O K ad u1) (w1 := mW O' K' μ) (wf := mW O' K') (b := O' 0) (As := [.int (zN xs i 1)]) (rest := [.int r1]) XX (cMM_drop l D O' K' (zN xs i 1) μ  H.size) (cwV 1 hts gL_law_X2_drop rfl rfl rfl qX2_drop ⟨Nat.le_of_ble_eq_true rfl, Nat.le_of_ble_eq_true rfl⟩) (va_recv hKm (zP_l hP) (ci := 2) (q0 := 0) rfl rfl) hKm (zP_c hP) (zD_c hD) hS hA rfl hl.1 rfl (Nat.le_of_ble_eq_true rfl) dL_law_202 ⟨(by omega : cells + 0 + 0 ≤ 600000), (by omega : slots + 0 + 0 ≤ 7302250)⟩ (fun r2 u2 H locs w2 hP hD hS => ?_)
  obtain ⟨e3, e4⟩ := w2
  refine zl_endi (tgt := 509) hx hb dL_law_205 (by decide) (e1.trans ((sim_drop hR (zN xs i 1)).1.trans e3.symm)) ?_
  refine W.widen (k := cells + 1) (n := slots + 8) (show cells + 0 + 0 ≤ cells + 1 by omega) (show slots + 0 + 0 ≤ slots + 8 by omega) ?_
  exact hk O K ad O' K' u1 u2 H locs ls (by rw [e2, e4]; exact (sim_drop hR (zN xs i 1)).2.up (by omega) (by omega)) hKx hKm hP hD hS hl
set_option maxHeartbeats 4000000 in
set_option maxRecDepth 100000 in
theorem lc_sum {p : Program} {l : Launch} {e : Env} {s : State} {m : MethodId} {below : List Frame} {meth : Method} {c : Code} {D : va_G} {b L : Nat} {xs : Nat → Int32} {i : Int32} {cells slots : Nat} {B : Int} {F : Nat} (XX : CallFix p m c cL_law 4 s #[Value.ref b] wsL_law RL) (hX : va_X b L xs s s.heap) (hbl : b < s.heap.size) (hi1 : vp_in (i + 1) L) (hi2 : vp_in (i + 2) L) (hi3 : vp_in (i + 3) L) (hi4 : vp_in (i + 4) L) (hi5 : vp_in (i + 5) L) (hi6 : vp_in (i + 6) L) (hf : cells + 1 ≤ 600000 ∧ slots + 8 ≤ 7302250) (hB : B + 224 ≤ 1000000000) (hF : F + 7 ≤ 1000000) (hk : zAt p l e s m below meth c D b i 509 (cells + 1) (slots + 8) (B + 224) (F + 7)) : zAt p l e s m below meth c D b i 382 cells slots B F := by
  obtain ⟨hx, hb, hml, hown, hts⟩ := id XX
  have hA : ∀ q : Nat, s.heap.size ≤ q → (fun q : Nat => s.heap.size ≤ q) q := fun _ h => h
  have hbA : ¬ (fun q : Nat => s.heap.size ≤ q) b := Nat.not_le.mpr hbl
  intro O K ad O' K' σ μ H locs ls hR hKx hKm hP hD hS hl
  refine lv_aload_n hx hb dL_law_382 rfl (lv_at hl 1 rfl) ?_
  refine zl_rd (j := 1) hx hb hX hbl hbA hS hi1 (lv_at hl 0 rfl) (lv_at hl 3 rfl) dL_law_383 dL_law_384 dL_law_385 (by decide) dL_law_386 dL_law_387 ?_
  refine z_fcl (w := mW O' K' μ) (w1 := xW O K ad σ) (wf := xW O K ad) (b := O 0) (As := [.int (zN xs i 1)]) (rest := []) XX (cx_sum l D O K ad (zN xs i 1) σ H.size) (cwV 1 hts gL_law_X1_sum rfl rfl rfl qX1_sum ⟨Nat.le_of_ble_eq_true rfl, Nat.le_of_ble_eq_true rfl⟩) (va_recv hKx (zP_l hP) (ci := 1) (q0 := 0) rfl rfl) hKx (zP_c hP) (zD_c hD) hS hA rfl hl.1 rfl (Nat.le_of_ble_eq_true rfl) dL_law_388 ⟨(by omega : cells + 0 ≤ 600000), (by omega : slots + 0 ≤ 7302250)⟩ (fun r1 u1 H locs w1 hP hD hS => ?_)
  obtain ⟨e1, e2⟩ := w1
  refine lv_aload_n hx hb dL_law_391 rfl (lv_at hl 2 rfl) ?_
  refine zl_rd (j := 1) hx hb hX hbl hbA hS hi1 (lv_at hl 0 rfl) (lv_at hl 3 rfl) dL_law_392 dL_law_393 dL_law_394 (by decide) dL_law_395 dL_law_396 ?_
  refine z_fcl (w := xW O K ad u1) (w1 := mW O' K' μ) (wf := mW O' K') (b := O' 0) (As := [.int (zN xs i 1)]) (rest := [.long r1]) XX (cMM_sum l D O' K' (zN xs i 1) μ  H.size) (cwV 1 hts gL_law_X2_sum rfl rfl rfl qX2_sum ⟨Nat.le_of_ble_eq_true rfl, Nat.le_of_ble_eq_true rfl⟩) (va_recv hKm (zP_l hP) (ci := 2) (q0 := 0) rfl rfl) hKm (zP_c hP) (zD_c hD) hS hA rfl hl.1 rfl (Nat.le_of_ble_eq_true rfl) dL_law_397 ⟨(by omega : cells + 0 + 0 ≤ 600000), (by omega : slots + 0 + 0 ≤ 7302250)⟩ (fun r2 u2 H locs w2 hP hD hS => ?_)
  obtain ⟨e3, e4⟩ := w2
  refine zl_endl (tgt := 509) hx hb dL_law_400 dL_law_401 (by decide) (e1.trans ((sim_sum hR (zN xs i 1)).trans e3.symm)) ?_
  refine W.widen (k := cells + 1) (n := slots + 8) (show cells + 0 + 0 ≤ cells + 1 by omega) (show slots + 0 + 0 ≤ slots + 8 by omega) ?_
  exact hk O K ad O' K' u1 u2 H locs ls (by rw [show u1 = σ from e2, show u2 = μ from e4]; exact hR.up (by omega) (by omega)) hKx hKm hP hD hS hl
set_option maxHeartbeats 4000000 in
set_option maxRecDepth 100000 in
theorem lc_counted {p : Program} {l : Launch} {e : Env} {s : State} {m : MethodId} {below : List Frame} {meth : Method} {c : Code} {D : va_G} {b L : Nat} {xs : Nat → Int32} {i : Int32} {cells slots : Nat} {B : Int} {F : Nat} (XX : CallFix p m c cL_law 4 s #[Value.ref b] wsL_law RL) (hX : va_X b L xs s s.heap) (hbl : b < s.heap.size) (hi1 : vp_in (i + 1) L) (hi2 : vp_in (i + 2) L) (hi3 : vp_in (i + 3) L) (hi4 : vp_in (i + 4) L) (hi5 : vp_in (i + 5) L) (hi6 : vp_in (i + 6) L) (hf : cells + 1 ≤ 600000 ∧ slots + 8 ≤ 7302250) (hB : B + 224 ≤ 1000000000) (hF : F + 7 ≤ 1000000) (hk : zAt p l e s m below meth c D b i 509 (cells + 1) (slots + 8) (B + 224) (F + 7)) : zAt p l e s m below meth c D b i 406 cells slots B F := by
  obtain ⟨hx, hb, hml, hown, hts⟩ := id XX
  have hA : ∀ q : Nat, s.heap.size ≤ q → (fun q : Nat => s.heap.size ≤ q) q := fun _ h => h
  have hbA : ¬ (fun q : Nat => s.heap.size ≤ q) b := Nat.not_le.mpr hbl
  intro O K ad O' K' σ μ H locs ls hR hKx hKm hP hD hS hl
  refine lv_aload_n hx hb dL_law_406 rfl (lv_at hl 1 rfl) ?_
  refine zl_rd (j := 1) hx hb hX hbl hbA hS hi1 (lv_at hl 0 rfl) (lv_at hl 3 rfl) dL_law_407 dL_law_408 dL_law_409 (by decide) dL_law_410 dL_law_411 ?_
  refine z_fci (w := mW O' K' μ) (w1 := xW O K ad σ) (wf := xW O K ad) (b := O 0) (As := [.int (zN xs i 1)]) (rest := []) XX (cx_counted l D O K ad (zN xs i 1) σ H.size) (cwV 1 hts gL_law_X1_counted rfl rfl rfl qX1_counted ⟨Nat.le_of_ble_eq_true rfl, Nat.le_of_ble_eq_true rfl⟩) (va_recv hKx (zP_l hP) (ci := 1) (q0 := 0) rfl rfl) hKx (zP_c hP) (zD_c hD) hS hA rfl hl.1 rfl (Nat.le_of_ble_eq_true rfl) dL_law_412 ⟨(by omega : cells + 0 ≤ 600000), (by omega : slots + 0 ≤ 7302250)⟩ (fun r1 u1 H locs w1 hP hD hS => ?_)
  obtain ⟨e1, e2⟩ := w1
  refine lv_aload_n hx hb dL_law_415 rfl (lv_at hl 2 rfl) ?_
  refine zl_rd (j := 1) hx hb hX hbl hbA hS hi1 (lv_at hl 0 rfl) (lv_at hl 3 rfl) dL_law_416 dL_law_417 dL_law_418 (by decide) dL_law_419 dL_law_420 ?_
  refine z_fci (w := xW O K ad u1) (w1 := mW O' K' μ) (wf := mW O' K') (b := O' 0) (As := [.int (zN xs i 1)]) (rest := [.int r1]) XX (cMM_counted l D O' K' (zN xs i 1) μ  H.size) (cwV 1 hts gL_law_X2_counted rfl rfl rfl qX2_counted ⟨Nat.le_of_ble_eq_true rfl, Nat.le_of_ble_eq_true rfl⟩) (va_recv hKm (zP_l hP) (ci := 2) (q0 := 0) rfl rfl) hKm (zP_c hP) (zD_c hD) hS hA rfl hl.1 rfl (Nat.le_of_ble_eq_true rfl) dL_law_421 ⟨(by omega : cells + 0 + 0 ≤ 600000), (by omega : slots + 0 + 0 ≤ 7302250)⟩ (fun r2 u2 H locs w2 hP hD hS => ?_)
  obtain ⟨e3, e4⟩ := w2
  refine zl_endi (tgt := 509) hx hb dL_law_424 (by decide) (e1.trans ((sim_counted hR (zN xs i 1)).trans e3.symm)) ?_
  refine W.widen (k := cells + 1) (n := slots + 8) (show cells + 0 + 0 ≤ cells + 1 by omega) (show slots + 0 + 0 ≤ slots + 8 by omega) ?_
  exact hk O K ad O' K' u1 u2 H locs ls (by rw [show u1 = σ from e2, show u2 = μ from e4]; exact hR.up (by omega) (by omega)) hKx hKm hP hD hS hl
set_option maxHeartbeats 4000000 in
set_option maxRecDepth 100000 in
theorem lc_count {p : Program} {l : Launch} {e : Env} {s : State} {m : MethodId} {below : List Frame} {meth : Method} {c : Code} {D : va_G} {b L : Nat} {xs : Nat → Int32} {i : Int32} {cells slots : Nat} {B : Int} {F : Nat} (XX : CallFix p m c cL_law 4 s #[Value.ref b] wsL_law RL) (hX : va_X b L xs s s.heap) (hbl : b < s.heap.size) (hi1 : vp_in (i + 1) L) (hi2 : vp_in (i + 2) L) (hi3 : vp_in (i + 3) L) (hi4 : vp_in (i + 4) L) (hi5 : vp_in (i + 5) L) (hi6 : vp_in (i + 6) L) (hf : cells + 1 ≤ 600000 ∧ slots + 8 ≤ 7302250) (hB : B + 224 ≤ 1000000000) (hF : F + 7 ≤ 1000000) (hk : zAt p l e s m below meth c D b i 509 (cells + 1) (slots + 8) (B + 224) (F + 7)) : zAt p l e s m below meth c D b i 486 cells slots B F := by
  obtain ⟨hx, hb, hml, hown, hts⟩ := id XX
  have hA : ∀ q : Nat, s.heap.size ≤ q → (fun q : Nat => s.heap.size ≤ q) q := fun _ h => h
  have hbA : ¬ (fun q : Nat => s.heap.size ≤ q) b := Nat.not_le.mpr hbl
  intro O K ad O' K' σ μ H locs ls hR hKx hKm hP hD hS hl
  refine lv_aload_n hx hb dL_law_486 rfl (lv_at hl 1 rfl) ?_
  refine zl_rd (j := 1) hx hb hX hbl hbA hS hi1 (lv_at hl 0 rfl) (lv_at hl 3 rfl) dL_law_487 dL_law_488 dL_law_489 (by decide) dL_law_490 dL_law_491 ?_
  refine z_fci (w := mW O' K' μ) (w1 := xW O K ad σ) (wf := xW O K ad) (b := O 0) (As := [.int (zN xs i 1)]) (rest := []) XX (cx_count l D O K ad (zN xs i 1) σ H.size) (cwV 1 hts gL_law_X1_count rfl rfl rfl qX1_count ⟨Nat.le_of_ble_eq_true rfl, Nat.le_of_ble_eq_true rfl⟩) (va_recv hKx (zP_l hP) (ci := 1) (q0 := 0) rfl rfl) hKx (zP_c hP) (zD_c hD) hS hA rfl hl.1 rfl (Nat.le_of_ble_eq_true rfl) dL_law_492 ⟨(by omega : cells + 0 ≤ 600000), (by omega : slots + 0 ≤ 7302250)⟩ (fun r1 u1 H locs w1 hP hD hS => ?_)
  obtain ⟨e1, e2⟩ := w1
  refine lv_aload_n hx hb dL_law_495 rfl (lv_at hl 2 rfl) ?_
  refine zl_rd (j := 1) hx hb hX hbl hbA hS hi1 (lv_at hl 0 rfl) (lv_at hl 3 rfl) dL_law_496 dL_law_497 dL_law_498 (by decide) dL_law_499 dL_law_500 ?_
  refine z_fci (w := xW O K ad u1) (w1 := mW O' K' μ) (wf := mW O' K') (b := O' 0) (As := [.int (zN xs i 1)]) (rest := [.int r1]) XX (cMM_count l D O' K' (zN xs i 1) μ  H.size) (cwV 1 hts gL_law_X2_count rfl rfl rfl qX2_count ⟨Nat.le_of_ble_eq_true rfl, Nat.le_of_ble_eq_true rfl⟩) (va_recv hKm (zP_l hP) (ci := 2) (q0 := 0) rfl rfl) hKm (zP_c hP) (zD_c hD) hS hA rfl hl.1 rfl (Nat.le_of_ble_eq_true rfl) dL_law_501 ⟨(by omega : cells + 0 + 0 ≤ 600000), (by omega : slots + 0 + 0 ≤ 7302250)⟩ (fun r2 u2 H locs w2 hP hD hS => ?_)
  obtain ⟨e3, e4⟩ := w2
  refine zl_endi (tgt := 509) hx hb dL_law_504 (by decide) (e1.trans ((sim_count hR (zN xs i 1)).trans e3.symm)) ?_
  refine W.widen (k := cells + 1) (n := slots + 8) (show cells + 0 + 0 ≤ cells + 1 by omega) (show slots + 0 + 0 ≤ slots + 8 by omega) ?_
  exact hk O K ad O' K' u1 u2 H locs ls (by rw [show u1 = σ from e2, show u2 = μ from e4]; exact hR.up (by omega) (by omega)) hKx hKm hP hD hS hl
