theorem zl_lim {L k : Nat} (hL : L ≤ 3584) (hk : 7 * k ≤ L) (h : ¬ Int32.ofNat L - 7 < nI (7 * k)) : 7 * k + 7 ≤ L := by
  rcases Nat.lt_or_ge L 7 with h7 | h7
  · exfalso
    have e : ∀ j, j < 7 → Int32.ofNat j - 7 < 0 := by decide
    exact h (Int32.lt_of_lt_of_le (e L h7) (nI_pos' (by omega)))
  · obtain ⟨j, rfl⟩ : ∃ j, L = j + 7 := ⟨L - 7, by omega⟩
    have e : Int32.ofNat (j + 7) - 7 = nI j := by
      show nI (j + 7) - nI 7 = nI j
      rw [← nI_add, Int32.add_sub_cancel]
    rw [e] at h
    rcases Nat.lt_or_ge j (7 * k) with q | q
    · exact absurd (nI_lt q (by omega)) h
    · omega
set_option maxHeartbeats 4000000 in
set_option maxRecDepth 100000 in
theorem law_loop {p : Program} {l : Launch} {e : Env} {s : State} {m : MethodId} {below : List Frame} {meth : Method} {c : Code} {D : va_G} {b L : Nat} {xs : Nat → Int32} (hL : L ≤ 3584) (C0 : lw_At p s m meth c b L xs) : ∀ (n k : Nat), 7 * k ≤ L → L < 7 * k + 7 * n → zAt p l e s m below meth c D b (nI (7 * k)) 18 (31 + k) (2083 + 8 * k) (224 * (k : Int)) (7 * k) := by
  obtain ⟨hx, hb, hr, hml, hown, hts0, hX, hbl, hlocks, hgv⟩ := C0
  have hts : ∀ w ∈ wsL_law, w.before #[Value.ref b] s = true := fun w h => hts0 w (wsL_law_in w h)
  have hbA : ¬ (fun q : Nat => s.heap.size ≤ q) b := Nat.not_le.mpr hbl
  have XX : CallFix p m c cL_law 4 s #[Value.ref b] wsL_law RL := ⟨hx, hb, hml, hown, hts⟩
  intro n
  induction n with
  | zero =>
    intro k h1 h2
    exact absurd h2 (by omega)
  | succ n ih =>
    intro k hk hn
    have hkk : k ≤ 512 := by omega
    intro O K ad O' K' σ μ H locs ls hR hKx hKm hP hD hS hl
    refine lv_iload_n hx hb dL_law_18 rfl (lv_at hl 3 rfl) ?_
    refine lv_aload_n hx hb dL_law_19 rfl (lv_at hl 0 rfl) ?_
    refine va_slen hx hb hX hbl hbA hS dL_law_20 ?_
    refine lv_bipush (v := 7) hx hb dL_law_21 (by decide) ?_
    refine lv_isub hx hb dL_law_23 ?_
    refine lv_icmp_gt (tgt := 515) hx hb dL_law_24 (by decide) (fun c24 => ?_) (fun c24 => ?_)
    · refine lv_iconst (v := 1) hx hb dL_law_515 (by decide) ?_
      refine va_forget (fun q hq => hS.2.2 q hq) ?_
      refine W.widen (k := 600000) (n := 7302250) (by omega) (by omega) ?_
      exact lw_ret hx hb hr hlocks dL_law_516
    · have h7 := zl_lim hL hk c24
      have hin : ∀ j, j < 7 → vp_in (nI (7 * k) + nI j) L := fun j hj => by
        rw [nI_add]
        exact vp_in_nI (by omega) (by omega)
      have hk9 : zAt p l e s m below meth c D b (nI (7 * k)) 509 (31 + k + 1) (2083 + 8 * k + 8) (224 * (k : Int) + 224) (7 * k + 7) := by
        intro O K ad O' K' σ μ H locs ls hR hKx hKm hP hD hS hl
        refine lv_iinc (v := nI (7 * (k + 1))) (lv' := [(3, .int (nI (7 * (k + 1)))), (0, .ref b), (1, .ref (O 0)), (2, .ref (O' 0))]) hx hb dL_law_509 hl (k := 3) rfl (nI_add (7 * k) 7) (by decide) rfl (fun ls hl => ?_)
        refine lv_goto (tgt := 18) hx hb dL_law_512 (by decide) ?_
        refine W.widen (k := 31 + (k + 1)) (n := 2083 + 8 * (k + 1)) (by omega) (by omega) ?_
        exact ih (k + 1) (by omega) (by omega) O K ad O' K' σ μ H locs ls (hR.up (by omega) (by omega)) hKx hKm hP hD hS (lv_sub hl [1, 2, 3, 0] rfl)
      have hf : 31 + k + 1 ≤ 600000 ∧ 2083 + 8 * k + 8 ≤ 7302250 := ⟨by omega, by omega⟩
      have hB : 224 * (k : Int) + 224 ≤ 1000000000 := by omega
      have hF : 7 * k + 7 ≤ 1000000 := by omega
      refine lv_aload_n hx hb dL_law_27 rfl (lv_at hl 0 rfl) ?_
      refine lv_iload_n hx hb dL_law_28 rfl (lv_at hl 3 rfl) ?_
      refine va_sld hx hb hX hbl hbA hS (vp_in_nI (by omega) (by omega)) dL_law_29 ?_
      refine lv_bipush (v := 15) hx hb dL_law_30 (by decide) ?_
      refine lv_iand hx hb dL_law_32 ?_
      refine lv_topi (fun t et => ?_)
      clear et c24
      by_cases t_0 : t = 0
      · refine lv_tableIn (off := 59) (tgt := 92) hx hb dL_law_33 (by rw [t_0]; decide) (by rw [t_0]; decide) (by rw [t_0]; rfl) (by decide) ?_
        exact lc_handle XX hX hbl (hin 1 (by decide)) (hin 2 (by decide)) (hin 3 (by decide)) (hin 4 (by decide)) (hin 5 (by decide)) (hin 6 (by decide)) hf hB hF hk9 O K ad O' K' σ μ H locs ls hR hKx hKm hP hD hS hl
      by_cases t_1 : t = 1
      · refine lv_tableIn (off := 154) (tgt := 187) hx hb dL_law_33 (by rw [t_1]; decide) (by rw [t_1]; decide) (by rw [t_1]; rfl) (by decide) ?_
        exact lc_drop XX hX hbl (hin 1 (by decide)) (hin 2 (by decide)) (hin 3 (by decide)) (hin 4 (by decide)) (hin 5 (by decide)) (hin 6 (by decide)) hf hB hF hk9 O K ad O' K' σ μ H locs ls hR hKx hKm hP hD hS hl
      by_cases t_2 : t = 2
      · refine lv_tableIn (off := 177) (tgt := 210) hx hb dL_law_33 (by rw [t_2]; decide) (by rw [t_2]; decide) (by rw [t_2]; rfl) (by decide) ?_
        exact lc_has XX hX hbl (hin 1 (by decide)) (hin 2 (by decide)) (hin 3 (by decide)) (hin 4 (by decide)) (hin 5 (by decide)) (hin 6 (by decide)) hf hB hF hk9 O K ad O' K' σ μ H locs ls hR hKx hKm hP hD hS hl
      by_cases t_3 : t = 3
      · refine lv_tableIn (off := 200) (tgt := 233) hx hb dL_law_33 (by rw [t_3]; decide) (by rw [t_3]; decide) (by rw [t_3]; rfl) (by decide) ?_
        exact lc_post XX hX hbl (hin 1 (by decide)) (hin 2 (by decide)) (hin 3 (by decide)) (hin 4 (by decide)) (hin 5 (by decide)) (hin 6 (by decide)) hf hB hF hk9 O K ad O' K' σ μ H locs ls hR hKx hKm hP hD hS hl
      by_cases t_4 : t = 4
      · refine lv_tableIn (off := 263) (tgt := 296) hx hb dL_law_33 (by rw [t_4]; decide) (by rw [t_4]; decide) (by rw [t_4]; rfl) (by decide) ?_
        exact lc_take XX hX hbl (hin 1 (by decide)) (hin 2 (by decide)) (hin 3 (by decide)) (hin 4 (by decide)) (hin 5 (by decide)) (hin 6 (by decide)) hf hB hF hk9 O K ad O' K' σ μ H locs ls hR hKx hKm hP hD hS hl
      by_cases t_5 : t = 5
      · refine lv_tableIn (off := 286) (tgt := 319) hx hb dL_law_33 (by rw [t_5]; decide) (by rw [t_5]; decide) (by rw [t_5]; rfl) (by decide) ?_
        exact lc_give XX hX hbl (hin 1 (by decide)) (hin 2 (by decide)) (hin 3 (by decide)) (hin 4 (by decide)) (hin 5 (by decide)) (hin 6 (by decide)) hf hB hF hk9 O K ad O' K' σ μ H locs ls hR hKx hKm hP hD hS hl
      by_cases t_6 : t = 6
      · refine lv_tableIn (off := 349) (tgt := 382) hx hb dL_law_33 (by rw [t_6]; decide) (by rw [t_6]; decide) (by rw [t_6]; rfl) (by decide) ?_
        exact lc_sum XX hX hbl (hin 1 (by decide)) (hin 2 (by decide)) (hin 3 (by decide)) (hin 4 (by decide)) (hin 5 (by decide)) (hin 6 (by decide)) hf hB hF hk9 O K ad O' K' σ μ H locs ls hR hKx hKm hP hD hS hl
      by_cases t_7 : t = 7
      · refine lv_tableIn (off := 373) (tgt := 406) hx hb dL_law_33 (by rw [t_7]; decide) (by rw [t_7]; decide) (by rw [t_7]; rfl) (by decide) ?_
        exact lc_counted XX hX hbl (hin 1 (by decide)) (hin 2 (by decide)) (hin 3 (by decide)) (hin 4 (by decide)) (hin 5 (by decide)) (hin 6 (by decide)) hf hB hF hk9 O K ad O' K' σ μ H locs ls hR hKx hKm hP hD hS hl
      by_cases t_8 : t = 8
      · refine lv_tableIn (off := 396) (tgt := 429) hx hb dL_law_33 (by rw [t_8]; decide) (by rw [t_8]; decide) (by rw [t_8]; rfl) (by decide) ?_
        exact lc_failed XX hX hbl (hin 1 (by decide)) (hin 2 (by decide)) (hin 3 (by decide)) (hin 4 (by decide)) (hin 5 (by decide)) (hin 6 (by decide)) hf hB hF hk9 O K ad O' K' σ μ H locs ls hR hKx hKm hP hD hS hl
      by_cases t_9 : t = 9
      · refine lv_tableIn (off := 429) (tgt := 462) hx hb dL_law_33 (by rw [t_9]; decide) (by rw [t_9]; decide) (by rw [t_9]; rfl) (by decide) ?_
        exact lc_value XX hX hbl (hin 1 (by decide)) (hin 2 (by decide)) (hin 3 (by decide)) (hin 4 (by decide)) (hin 5 (by decide)) (hin 6 (by decide)) hf hB hF hk9 O K ad O' K' σ μ H locs ls hR hKx hKm hP hD hS hl
      by_cases t_10 : t = 10
      · refine lv_tableIn (off := 453) (tgt := 486) hx hb dL_law_33 (by rw [t_10]; decide) (by rw [t_10]; decide) (by rw [t_10]; rfl) (by decide) ?_
        exact lc_count XX hX hbl (hin 1 (by decide)) (hin 2 (by decide)) (hin 3 (by decide)) (hin 4 (by decide)) (hin 5 (by decide)) (hin 6 (by decide)) hf hB hF hk9 O K ad O' K' σ μ H locs ls hR hKx hKm hP hD hS hl
      refine lv_tableOut (tgt := 509) hx hb dL_law_33 (z_out 10 (by decide) (fun k hk => match k, hk with | 0, _ => t_0 | 1, _ => t_1 | 2, _ => t_2 | 3, _ => t_3 | 4, _ => t_4 | 5, _ => t_5 | 6, _ => t_6 | 7, _ => t_7 | 8, _ => t_8 | 9, _ => t_9 | 10, _ => t_10 | (k + 11), hk => absurd hk (by omega))) (by decide) ?_
      refine W.widen (k := 31 + k + 1) (n := 2083 + 8 * k + 8) (by omega) (by omega) ?_
      exact hk9 O K ad O' K' σ μ H locs ls (hR.up (by omega) (by omega)) hKx hKm hP hD hS hl
