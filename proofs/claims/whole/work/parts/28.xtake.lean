theorem xp_noteFailed (k : Int32) (v : Int64) (f : Int32) (σ : SX) : xpres σ (xf_noteFailed k v f σ) := by
  have h1 : ∀ x : Int32, xpres σ (xs_fl σ x) := fun x => xpres.of (xr_n_fl _ _) (xr_hd_fl _ _) (xr_tab_fl _ _)
  unfold xf_noteFailed
  by_cases c1 : x_fl σ < 0
  · rw [if_pos c1]; exact h1 _
  · rw [if_neg c1]
    by_cases c2 : 30 ≤ x_fl σ
    · rw [if_pos c2]; exact h1 _
    · rw [if_neg c2]
      exact (h1 _).trans ((xpres.of (xr_n_fk _ _) (xr_hd_fk _ _) (xr_tab_fk _ _)).trans ((xpres.of (xr_n_fn _ _) (xr_hd_fn _ _) (xr_tab_fn _ _)).trans (xpres.of (xr_n_fv _ _) (xr_hd_fv _ _) (xr_tab_fv _ _))))
theorem xp_takeFirst (σ : SX) (hok : xok σ) : xpres σ (xf_takeFirst σ) := by
  have h0 : ∀ x y z : Int32, xpres σ (xs_tk (xs_qs (xs_qf σ x) y) z) := fun x y z => (xpres.of (xr_n_qf _ _) (xr_hd_qf _ _) (xr_tab_qf _ _)).trans ((xpres.of (xr_n_qs _ _) (xr_hd_qs _ _) (xr_tab_qs _ _)).trans (xpres.of (xr_n_tk _ _) (xr_hd_tk _ _) (xr_tab_tk _ _)))
  unfold xf_takeFirst
  by_cases c1 : x_qf σ < 0
  · rw [if_pos c1]; exact xpres.refl σ
  · rw [if_neg c1]
    by_cases c2 : x_qf σ < 40
    · rw [if_pos c2]
      have h1 := h0 ((x_qf σ + 1) - (x_qf σ + 1) / 40 * 40) (x_qs σ - 1) (x_tk σ + 1)
      have h2 := h1.trans (xp_deliver (x_qk σ (x_qf σ).toNatClampNeg) (x_qv σ (x_qf σ).toNatClampNeg) _ (h1.2 hok))
      generalize xf_deliver (x_qk σ (x_qf σ).toNatClampNeg) (x_qv σ (x_qf σ).toNatClampNeg) (xs_tk (xs_qs (xs_qf σ ((x_qf σ + 1) - (x_qf σ + 1) / 40 * 40)) (x_qs σ - 1)) (x_tk σ + 1)) = G at h2 ⊢
      by_cases c3 : G.1 = 0
      · rw [if_pos c3]; exact h2
      · rw [if_neg c3]; exact h2.trans (xp_noteFailed _ _ _ _)
    · rw [if_neg c2]; exact xpres.refl σ
noncomputable def xf_takeL : Nat → Int32 → Int32 → SX → Int32 × SX
  | 0, _, dn, σ => (dn, σ)
  | f + 1, n, dn, σ => if n ≤ dn then (dn, σ) else if x_qs σ ≤ 0 then (dn, σ) else xf_takeL f n (dn + 1) (xf_takeFirst σ)
theorem z_tkn {n dn : Int32} {f : Nat} (h : ∃ a b, n = nI a ∧ dn = nI b ∧ a ≤ 6 ∧ b ≤ a ∧ a < b + (f + 1)) (hc : ¬ n ≤ dn) : ∃ a b, n = nI a ∧ dn + 1 = nI b ∧ a ≤ 6 ∧ b ≤ a ∧ a < b + f := by
  obtain ⟨a, b, rfl, rfl, h1, h2, h3⟩ := h
  have hlt : b < a := by
    rcases Nat.lt_or_ge b a with q | q
    · exact q
    · exact absurd (nI_le q (by omega)) hc
  exact ⟨a, b + 1, rfl, nI_1 b, h1, hlt, by omega⟩
set_option maxRecDepth 100000 in
set_option maxHeartbeats 4000000 in
theorem cx_takeL {ad : Nat → Nat} {p : Program} {l : Launch} {e : Env} {s : State} {m : MethodId} {args : Array Value} {below : List Frame} {meth : Method} {c : Code} {A : Nat → Prop} {D : va_G} {O : Nat → Nat} {K : Nat → ClassId} (XX : CallFix p m c cX1_take 3 s args wsX1_take RX1) (hr : meth.sig.returnType = some .int) (hlocks : meth.locks = false) (hA : ∀ q : Nat, s.heap.size ≤ q → A q) (hK : va_K D vwCl (xT K) s) (n : Int32) (RR : Int32 × SX) : ∀ (f : Nat) (dn : Int32) (σ : SX), xok σ → xf_takeL f n dn σ = RR → (∃ a b, n = nI a ∧ dn = nI b ∧ a ≤ 6 ∧ b ≤ a ∧ a < b + f) → ∀ (H : Heap) (locs : List Loc) (ls : Array Slot), va_P D vwCl (xW O K ad σ) H → va_D A (xW O K ad σ) → va_S A s.heap H locs → lv_has ls 3 [(0, .ref (O 0)), (1, .int n), (2, .int dn)] → W p l e { frames := 102, cells := 0, slots := 0, locals := 10200 } s m args below meth c H locs 0 0 (MQ below (va_Qi (fun r9 u9 => r9 = RR.1 ∧ u9 = RR.2) (zB D (xT K) (xW O K ad) A) A) args s 0 0 A) (F0 m 21 ls []) := by
  obtain ⟨hx, hb, hml, hown, hts⟩ := id XX
  have inW : ∀ w ∈ wsX10, w ∈ wsX1_take := fun w h => List.mem_cons_of_mem _ (List.mem_append_left _ (List.mem_append_right _ h))
  have k63 := hts (.fieldLink RX1 63 "MailRoom" "queueSize" "I") (List.mem_of_getElem? (i := 2) rfl)
  intro f
  induction f with
  | zero =>
    intro dn σ hok hF hn
    obtain ⟨a, b, -, -, -, h1, h2⟩ := hn
    exact absurd h2 (by omega)
  | succ f ih =>
    intro dn σ hok hF hn H locs ls hP hD hS hl
    refine lv_iload_n hx hb dX1_take_21 rfl (lv_at hl 2 rfl) ?_
    refine lv_iload_n hx hb dX1_take_22 rfl (lv_at hl 1 rfl) ?_
    refine lv_icmp_ge (tgt := 43) hx hb dX1_take_23 (by decide) (fun c23 => ?_) (fun c23 => ?_)
    · refine lv_iload_n hx hb dX1_take_43 rfl (lv_at hl 2 rfl) ?_
      exact z_reti hx hb hr hlocks rfl hK hP hD hS (hF.symm.trans ((if_pos c23).trans rfl)) dX1_take_44
    · refine lv_aload_n hx hb dX1_take_26 rfl (lv_at hl 0 rfl) ?_
      refine x_gi_qs (v := (x_qs σ)) hx hb hts inW hown hK hP (rfl) k63 dX1_take_27 ?_
      refine lv_if_le (tgt := 43) hx hb dX1_take_30 (by decide) (fun c30 => ?_) (fun c30 => ?_)
      · refine lv_iload_n hx hb dX1_take_43 rfl (lv_at hl 2 rfl) ?_
        exact z_reti hx hb hr hlocks rfl hK hP hD hS (hF.symm.trans ((if_neg c23).trans ((if_pos c30).trans rfl))) dX1_take_44
      · refine lv_aload_n hx hb dX1_take_33 rfl (lv_at hl 0 rfl) ?_
        refine z_callv (As := []) (rest := []) XX (cx_takeFirst l D O K ad  σ (hok)) (cwV 0 hts gX1_take_X1_takeFirst rfl rfl rfl qX1_takeFirst ⟨by decide, by decide⟩) (va_recv hK hP (ci := 1) (q0 := 0) rfl rfl) hK hP hD hS hA rfl hl.1 rfl (Nat.le_of_ble_eq_true rfl) dX1_take_34 ⟨Nat.zero_le _, Nat.zero_le _⟩ (fun H locs hP hD hS => ?_)
        refine lv_iinc (v := (dn + 1)) (lv' := [(2, .int (dn + 1)), (0, .ref (O 0)), (1, .int n)]) hx hb dX1_take_37 hl (k := 2) rfl rfl (by decide) rfl (fun ls hl => ?_)
        refine lv_goto (tgt := 21) hx hb dX1_take_40 (by decide) ?_
        exact ih (dn + 1) (xf_takeFirst σ) ((xp_takeFirst σ hok).2 hok) (by rw [← hF]; exact ((if_neg c23).trans (if_neg c30)).symm) (z_tkn hn c23) H locs ls hP hD hS (lv_sub hl [1, 2, 0] rfl)
