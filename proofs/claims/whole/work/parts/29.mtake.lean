noncomputable def mf_shift : Nat → Int32 → SM → SM
  | 0, _, σ => σ
  | f + 1, i, σ => if m_sz σ ≤ i then σ else mf_shift f (i + 1) (ms_qv (ms_qk σ (upd (m_qk σ) i.toNatClampNeg (m_qk σ (i + 1).toNatClampNeg))) (vp_updL (m_qv σ) i.toNatClampNeg (m_qv σ (i + 1).toNatClampNeg)))
/-- take's loop, of the reference -/
def mTk (n : Int32) (RR : Int32 × SM) : Nat → Int32 → SM → Prop
  | 0, _, _ => False
  | f + 1, dn, σ => (n ≤ dn → RR = (dn, σ)) ∧ (¬ n ≤ dn → m_sz σ ≤ 0 → RR = (dn, σ)) ∧ (¬ n ≤ dn → ¬ m_sz σ ≤ 0 → (∃ q, q ≤ 39 ∧ m_sz σ - 1 = nI q) ∧ vp_in (m_qk σ (0 : Int32).toNatClampNeg) 10 ∧ ∃ τ, mReach (mf_call (m_st (mf_shift 40 0 (ms_sz σ (m_sz σ - 1))) (m_qk σ (0 : Int32).toNatClampNeg).toNatClampNeg) (m_qv σ (0 : Int32).toNatClampNeg) (ms_bg (ms_tp (ms_tk (mf_shift 40 0 (ms_sz σ (m_sz σ - 1))) (m_tk (mf_shift 40 0 (ms_sz σ (m_sz σ - 1))) + 1)) 0) 0)) τ ∧ m_tp τ ≤ 0 ∧ (¬ 30 ≤ m_kp τ → vp_in (m_kp τ) 30) ∧ mTk n RR f (dn + 1) (if m_fa τ = 0 then ms_la τ (m_la τ + m_bg τ) else mf_falls (m_qk σ (0 : Int32).toNatClampNeg) (m_qv σ (0 : Int32).toNatClampNeg) (ms_la τ (m_la τ + m_bg τ))))
def mTake (n : Int32) (σ : SM) (RR : Int32 × SM) : Prop := (mf_in n 1 6 = 0 → RR = (-3, σ)) ∧ (¬ mf_in n 1 6 = 0 → mTk n RR 7 0 (ms_la σ 0))
theorem z_v040 : vp_in (0 : Int32) 40 := vp_in_nI (n := 0) (by decide) (by decide)
theorem z_sh {z i : Int32} {f : Nat} (h : ∃ q j, z = nI q ∧ i = nI j ∧ q ≤ 39 ∧ j ≤ q ∧ q < j + (f + 1)) (hc : ¬ z ≤ i) : vp_in i 40 ∧ vp_in (i + 1) 40 ∧ ∃ q j, z = nI q ∧ i + 1 = nI j ∧ q ≤ 39 ∧ j ≤ q ∧ q < j + f := by
  obtain ⟨q, j, rfl, rfl, h1, h2, h3⟩ := h
  have hlt : j < q := by
    rcases Nat.lt_or_ge j q with g | g
    · exact g
    · exact absurd (nI_le g (by omega)) hc
  exact ⟨vp_in_nI (by omega) (by decide), by rw [nI_1]; exact vp_in_nI (by omega) (by decide), q, j + 1, rfl, nI_1 j, h1, hlt, by omega⟩
set_option maxRecDepth 100000 in
set_option maxHeartbeats 4000000 in
theorem cMM_takeI {p : Program} {l : Launch} {e : Env} {s : State} {m : MethodId} {args : Array Value} {below : List Frame} {meth : Method} {c : Code} {A : Nat → Prop} {D : va_G} {O : Nat → Nat} {K : Nat → ClassId} (XX : CallFix p m c cX2_take 7 s args wsX2_take RX2) (hK : va_K D vwCl (mT K) s) {Q : State → Prop} (n dn k : Int32) (v : Int64) : ∀ (f : Nat) (i : Int32) (σ : SM), (∃ q j, m_sz σ = nI q ∧ i = nI j ∧ q ≤ 39 ∧ j ≤ q ∧ q < j + f) → (∀ (H : Heap) (locs : List Loc) (ls : Array Slot), va_P D vwCl (mW O K (mf_shift f i σ)) H → va_D A (mW O K (mf_shift f i σ)) → va_S A s.heap H locs → lv_has ls 7 [(0, .ref (O 0)), (1, .int n), (2, .int dn), (3, .int k), (4, .long v)] → W p l e { frames := 4, cells := 0, slots := 0, locals := 400 } s m args below meth c H locs 0 0 Q (F0 m 107 ls [])) → ∀ (H : Heap) (locs : List Loc) (ls : Array Slot), va_P D vwCl (mW O K σ) H → va_D A (mW O K σ) → va_S A s.heap H locs → lv_has ls 7 [(0, .ref (O 0)), (1, .int n), (2, .int dn), (3, .int k), (4, .long v), (6, .int i)] → W p l e { frames := 4, cells := 0, slots := 0, locals := 400 } s m args below meth c H locs 0 0 Q (F0 m 60 ls []) := by
  obtain ⟨hx, hb, hml, hown, hts⟩ := id XX
  have inW : ∀ w ∈ wsX20, w ∈ wsX2_take := fun w h => List.mem_cons_of_mem _ (List.mem_append_right _ h)
  have k86 := hts (.fieldLink RX2 86 "MailRoomModel" "size" "I") (List.mem_of_getElem? (i := 2) rfl)
  have k44 := hts (.fieldLink RX2 44 "MailRoomModel" "queueKinds" "[I") (List.mem_of_getElem? (i := 3) rfl)
  have k47 := hts (.fieldLink RX2 47 "MailRoomModel" "queueValues" "[J") (List.mem_of_getElem? (i := 4) rfl)
  intro f
  induction f with
  | zero =>
    intro i σ hn
    obtain ⟨q, j, -, -, -, h1, h2⟩ := hn
    exact absurd h2 (by omega)
  | succ f ih =>
    intro i σ hn kk H locs ls hP hD hS hl
    refine lv_iload hx hb dX2_take_60 (lv_at hl 5 rfl) ?_
    refine lv_aload_n hx hb dX2_take_62 rfl (lv_at hl 0 rfl) ?_
    refine m_gi_sz (v := (m_sz σ)) hx hb hts inW hown hK hP (rfl) k86 dX2_take_63 ?_
    refine lv_icmp_ge (tgt := 107) hx hb dX2_take_66 (by decide) (fun c66 => ?_) (fun c66 => ?_)
    · have e9 : mf_shift (f + 1) i σ = σ := if_pos c66
      rw [e9] at kk
      exact kk H locs ls hP hD hS (lv_sub hl [0, 1, 2, 3, 4] rfl)
    · refine lv_aload_n hx hb dX2_take_69 rfl (lv_at hl 0 rfl) ?_
      refine m_ga_12 hx hb hts inW hown hK hP k44 dX2_take_70 ?_
      refine lv_iload hx hb dX2_take_73 (lv_at hl 5 rfl) ?_
      refine lv_aload_n hx hb dX2_take_75 rfl (lv_at hl 0 rfl) ?_
      refine m_ga_12 hx hb hts inW hown hK hP k44 dX2_take_76 ?_
      refine lv_iload hx hb dX2_take_79 (lv_at hl 5 rfl) ?_
      refine lv_iconst (v := 1) hx hb dX2_take_81 (by decide) ?_
      refine lv_iadd hx hb dX2_take_82 ?_
      refine m_ld_qk (f := (m_qk σ)) (i := (i + 1)) hx hb hK hP (rfl) ((z_sh hn c66).2.1) dX2_take_83 ?_
      refine m_st_qk (f := (m_qk σ)) (i := i) hx hb hK hP hD hS (rfl) ((z_sh hn c66).1) dX2_take_84 (fun H locs hP hD hS => ?_)
      refine lv_aload_n hx hb dX2_take_85 rfl (lv_at hl 0 rfl) ?_
      refine m_ga_13 hx hb hts inW hown hK hP k47 dX2_take_86 ?_
      refine lv_iload hx hb dX2_take_89 (lv_at hl 5 rfl) ?_
      refine lv_aload_n hx hb dX2_take_91 rfl (lv_at hl 0 rfl) ?_
      refine m_ga_13 hx hb hts inW hown hK hP k47 dX2_take_92 ?_
      refine lv_iload hx hb dX2_take_95 (lv_at hl 5 rfl) ?_
      refine lv_iconst (v := 1) hx hb dX2_take_97 (by decide) ?_
      refine lv_iadd hx hb dX2_take_98 ?_
      refine m_ld_qv (f := (m_qv σ)) (i := (i + 1)) hx hb hK hP (mr_qv_qk _ _) ((z_sh hn c66).2.1) dX2_take_99 ?_
      refine m_st_qv (f := (m_qv σ)) (i := i) hx hb hK hP hD hS (mr_qv_qk _ _) ((z_sh hn c66).1) dX2_take_100 (fun H locs hP hD hS => ?_)
      refine lv_iinc (v := (i + 1)) (lv' := [(6, .int (i + 1)), (0, .ref (O 0)), (1, .int n), (2, .int dn), (3, .int k), (4, .long v)]) hx hb dX2_take_101 hl (k := 5) rfl rfl (by decide) rfl (fun ls hl => ?_)
      refine lv_goto (tgt := 60) hx hb dX2_take_104 (by decide) ?_
      have e9 : mf_shift (f + 1) i σ = mf_shift f (i + 1) (ms_qv (ms_qk σ (upd (m_qk σ) i.toNatClampNeg ((m_qk σ) (i + 1).toNatClampNeg))) (vp_updL (m_qv σ) i.toNatClampNeg ((m_qv σ) (i + 1).toNatClampNeg))) := if_neg c66
      rw [e9] at kk
      exact ih (i + 1) (ms_qv (ms_qk σ (upd (m_qk σ) i.toNatClampNeg ((m_qk σ) (i + 1).toNatClampNeg))) (vp_updL (m_qv σ) i.toNatClampNeg ((m_qv σ) (i + 1).toNatClampNeg))) (by rw [mr_sz_qv, mr_sz_qk]; exact (z_sh hn c66).2.2) kk H locs ls hP hD hS (lv_sub hl [1, 2, 3, 4, 5, 0] rfl)
theorem z_sh0 {σ : SM} (h : ∃ q, q ≤ 39 ∧ m_sz σ - 1 = nI q) : ∃ q j, m_sz (ms_sz σ (m_sz σ - 1)) = nI q ∧ (0 : Int32) = nI j ∧ q ≤ 39 ∧ j ≤ q ∧ q < j + 40 := by
  obtain ⟨q, h1, h2⟩ := h
  exact ⟨q, 0, by rw [mw_sz, h2], rfl, h1, Nat.zero_le _, by omega⟩
set_option maxRecDepth 100000 in
set_option maxHeartbeats 4000000 in
theorem cMM_takeL {p : Program} {l : Launch} {e : Env} {s : State} {m : MethodId} {args : Array Value} {below : List Frame} {meth : Method} {c : Code} {A : Nat → Prop} {D : va_G} {O : Nat → Nat} {K : Nat → ClassId} (XX : CallFix p m c cX2_take 7 s args wsX2_take RX2) (hr : meth.sig.returnType = some .int) (hlocks : meth.locks = false) (hA : ∀ q : Nat, s.heap.size ≤ q → A q) (hK : va_K D vwCl (mT K) s) (n : Int32) (RR : Int32 × SM) : ∀ (f : Nat) (dn : Int32) (σ : SM), mTk n RR f dn σ → ∀ (H : Heap) (locs : List Loc) (ls : Array Slot), va_P D vwCl (mW O K σ) H → va_D A (mW O K σ) → va_S A s.heap H locs → lv_has ls 7 [(0, .ref (O 0)), (1, .int n), (2, .int dn)] → W p l e { frames := 4, cells := 0, slots := 0, locals := 400 } s m args below meth c H locs 0 0 (MQ below (va_Qi (fun r9 u9 => r9 = RR.1 ∧ u9 = RR.2) (zB D (mT K) (mW O K) A) A) args s 0 0 A) (F0 m 20 ls []) := by
  obtain ⟨hx, hb, hml, hown, hts⟩ := id XX
  have inW : ∀ w ∈ wsX20, w ∈ wsX2_take := fun w h => List.mem_cons_of_mem _ (List.mem_append_right _ h)
  have k86 := hts (.fieldLink RX2 86 "MailRoomModel" "size" "I") (List.mem_of_getElem? (i := 2) rfl)
  have k44 := hts (.fieldLink RX2 44 "MailRoomModel" "queueKinds" "[I") (List.mem_of_getElem? (i := 3) rfl)
  have k47 := hts (.fieldLink RX2 47 "MailRoomModel" "queueValues" "[J") (List.mem_of_getElem? (i := 4) rfl)
  have k132 := hts (.fieldLink RX2 132 "MailRoomModel" "taken" "I") (List.mem_of_getElem? (i := 5) rfl)
  have k41 := hts (.fieldLink RX2 41 "MailRoomModel" "stands" "[I") (List.mem_of_getElem? (i := 6) rfl)
  have k93 := hts (.fieldLink RX2 93 "MailRoomModel" "failure" "I") (List.mem_of_getElem? (i := 7) rfl)
  intro f
  induction f with
  | zero =>
    intro dn σ hT
    exact absurd hT (fun h => h)
  | succ f ih =>
    intro dn σ hT H locs ls hP hD hS hl
    refine lv_iload_n hx hb dX2_take_20 rfl (lv_at hl 2 rfl) ?_
    refine lv_iload_n hx hb dX2_take_21 rfl (lv_at hl 1 rfl) ?_
    refine lv_icmp_ge (tgt := 149) hx hb dX2_take_22 (by decide) (fun c22 => ?_) (fun c22 => ?_)
    · refine lv_iload_n hx hb dX2_take_149 rfl (lv_at hl 2 rfl) ?_
      exact z_reti hx hb hr hlocks rfl hK hP hD hS (hT.1 c22) dX2_take_150
    · refine lv_aload_n hx hb dX2_take_25 rfl (lv_at hl 0 rfl) ?_
      refine m_gi_sz (v := (m_sz σ)) hx hb hts inW hown hK hP (rfl) k86 dX2_take_26 ?_
      refine lv_if_le (tgt := 149) hx hb dX2_take_29 (by decide) (fun c29 => ?_) (fun c29 => ?_)
      · refine lv_iload_n hx hb dX2_take_149 rfl (lv_at hl 2 rfl) ?_
        exact z_reti hx hb hr hlocks rfl hK hP hD hS (hT.2.1 c22 c29) dX2_take_150
      · obtain ⟨hq, hk, τ, hR, ht, hkp, hT2⟩ := hT.2.2 c22 c29
        refine lv_aload_n hx hb dX2_take_32 rfl (lv_at hl 0 rfl) ?_
        refine m_ga_12 hx hb hts inW hown hK hP k44 dX2_take_33 ?_
        refine lv_iconst (v := 0) hx hb dX2_take_36 (by decide) ?_
        refine m_ld_qk (f := (m_qk σ)) (i := 0) hx hb hK hP (rfl) (z_v040) dX2_take_37 ?_
        refine lv_istore_n (lv' := [(3, .int ((m_qk σ) (0 : Int32).toNatClampNeg)), (0, .ref (O 0)), (1, .int n), (2, .int dn)]) hx hb dX2_take_38 rfl hl (by decide) rfl (fun ls hl => ?_)
        refine lv_aload_n hx hb dX2_take_39 rfl (lv_at hl 1 rfl) ?_
        refine m_ga_13 hx hb hts inW hown hK hP k47 dX2_take_40 ?_
        refine lv_iconst (v := 0) hx hb dX2_take_43 (by decide) ?_
        refine m_ld_qv (f := (m_qv σ)) (i := 0) hx hb hK hP (rfl) (z_v040) dX2_take_44 ?_
        refine lv_lstore (lv' := [(4, .long ((m_qv σ) (0 : Int32).toNatClampNeg)), (3, .int ((m_qk σ) (0 : Int32).toNatClampNeg)), (0, .ref (O 0)), (1, .int n), (2, .int dn)]) hx hb dX2_take_45 hl (by decide) rfl (fun ls hl => ?_)
        refine lv_aload_n hx hb dX2_take_47 rfl (lv_at hl 2 rfl) ?_
        refine lv_dup hx hb dX2_take_48 rfl ?_
        refine m_gi_sz (v := (m_sz σ)) hx hb hts inW hown hK hP (rfl) k86 dX2_take_49 ?_
        refine lv_iconst (v := 1) hx hb dX2_take_52 (by decide) ?_
        refine lv_isub hx hb dX2_take_53 ?_
        refine m_pi_sz hx hb hts inW hown hK hP hD hS k86 dX2_take_54 (fun H locs hP hD hS => ?_)
        refine lv_iconst (v := 0) hx hb dX2_take_57 (by decide) ?_
        refine lv_istore (lv' := [(6, .int 0), (4, .long ((m_qv σ) (0 : Int32).toNatClampNeg)), (3, .int ((m_qk σ) (0 : Int32).toNatClampNeg)), (0, .ref (O 0)), (1, .int n), (2, .int dn)]) hx hb dX2_take_58 hl (by decide) rfl (fun ls hl => ?_)
        refine cMM_takeI XX hK n dn ((m_qk σ) (0 : Int32).toNatClampNeg) ((m_qv σ) (0 : Int32).toNatClampNeg) 40 0 (ms_sz σ ((m_sz σ) - 1)) (z_sh0 hq) (fun H locs ls hP hD hS hl => ?_) H locs ls hP hD hS (lv_sub hl [3, 4, 5, 2, 1, 0] rfl)
        refine lv_iinc (v := (dn + 1)) (lv' := [(2, .int (dn + 1)), (0, .ref (O 0)), (1, .int n), (3, .int ((m_qk σ) (0 : Int32).toNatClampNeg)), (4, .long ((m_qv σ) (0 : Int32).toNatClampNeg))]) hx hb dX2_take_107 hl (k := 2) rfl rfl (by decide) rfl (fun ls hl => ?_)
        refine lv_aload_n hx hb dX2_take_110 rfl (lv_at hl 1 rfl) ?_
        refine lv_dup hx hb dX2_take_111 rfl ?_
        refine m_gi_tk (v := (m_tk (mf_shift 40 0 (ms_sz σ (m_sz σ - 1))))) hx hb hts inW hown hK hP (rfl) k132 dX2_take_112 ?_
        refine lv_iconst (v := 1) hx hb dX2_take_115 (by decide) ?_
        refine lv_iadd hx hb dX2_take_116 ?_
        refine m_pi_tk hx hb hts inW hown hK hP hD hS k132 dX2_take_117 (fun H locs hP hD hS => ?_)
        refine lv_aload_n hx hb dX2_take_120 rfl (lv_at hl 1 rfl) ?_
        refine lv_aload_n hx hb dX2_take_121 rfl (lv_at hl 1 rfl) ?_
        refine m_ga_11 hx hb hts inW hown hK hP k41 dX2_take_122 ?_
        refine lv_iload_n hx hb dX2_take_125 rfl (lv_at hl 3 rfl) ?_
        refine m_ld_st (f := (m_st (mf_shift 40 0 (ms_sz σ (m_sz σ - 1))))) (i := ((m_qk σ) (0 : Int32).toNatClampNeg)) hx hb hK hP (mr_st_tk _ _) (hk) dX2_take_126 ?_
        refine lv_lload hx hb dX2_take_127 (lv_at hl 4 rfl) ?_
        refine z_callv (As := [.int ((m_st (mf_shift 40 0 (ms_sz σ (m_sz σ - 1)))) ((m_qk σ) (0 : Int32).toNatClampNeg).toNatClampNeg), .long ((m_qv σ) (0 : Int32).toNatClampNeg)]) (rest := []) XX (cMM_go l D O K ((m_st (mf_shift 40 0 (ms_sz σ (m_sz σ - 1)))) ((m_qk σ) (0 : Int32).toNatClampNeg).toNatClampNeg) ((m_qv σ) (0 : Int32).toNatClampNeg) (ms_tk (mf_shift 40 0 (ms_sz σ (m_sz σ - 1))) ((m_tk (mf_shift 40 0 (ms_sz σ (m_sz σ - 1)))) + 1)) τ hR ht) (cwV 2 hts gX2_take_X2_go rfl rfl rfl qX2_go ⟨by decide, by decide⟩) (va_recv hK hP (ci := 2) (q0 := 0) rfl rfl) hK hP hD hS hA rfl hl.1 rfl (Nat.le_of_ble_eq_true rfl) dX2_take_129 ⟨Nat.zero_le _, Nat.zero_le _⟩ (fun H locs hP hD hS => ?_)
        refine lv_aload_n hx hb dX2_take_132 rfl (lv_at hl 1 rfl) ?_
        refine m_gi_fa (v := (m_fa (ms_la τ (m_la τ + m_bg τ)))) hx hb hts inW hown hK hP (rfl) k93 dX2_take_133 ?_
        refine lv_if_eq (tgt := 146) hx hb dX2_take_136 (by decide) (fun c136 => ?_) (fun c136 => ?_)
        · refine lv_goto (tgt := 20) hx hb dX2_take_146 (by decide) ?_
          rw [if_pos ((mr_fa_la _ _).symm.trans c136)] at hT2
          exact ih (dn + 1) (ms_la τ (m_la τ + m_bg τ)) hT2 H locs ls hP hD hS (lv_sub hl [1, 2, 0] rfl)
        · refine lv_aload_n hx hb dX2_take_139 rfl (lv_at hl 1 rfl) ?_
          refine lv_iload_n hx hb dX2_take_140 rfl (lv_at hl 3 rfl) ?_
          refine lv_lload hx hb dX2_take_141 (lv_at hl 4 rfl) ?_
          refine z_callv (As := [.int ((m_qk σ) (0 : Int32).toNatClampNeg), .long ((m_qv σ) (0 : Int32).toNatClampNeg)]) (rest := []) XX (cMM_falls l D O K ((m_qk σ) (0 : Int32).toNatClampNeg) ((m_qv σ) (0 : Int32).toNatClampNeg) (ms_la τ (m_la τ + m_bg τ)) (by rw [mr_kp_la]; exact hkp)) (cwV 2 hts gX2_take_X2_falls rfl rfl rfl qX2_falls ⟨by decide, by decide⟩) (va_recv hK hP (ci := 2) (q0 := 0) rfl rfl) hK hP hD hS hA rfl hl.1 rfl (Nat.le_of_ble_eq_true rfl) dX2_take_143 ⟨Nat.zero_le _, Nat.zero_le _⟩ (fun H locs hP hD hS => ?_)
          refine lv_goto (tgt := 20) hx hb dX2_take_146 (by decide) ?_
          rw [if_neg (fun h => c136 ((mr_fa_la _ _).trans h))] at hT2
          exact ih (dn + 1) (mf_falls ((m_qk σ) (0 : Int32).toNatClampNeg) ((m_qv σ) (0 : Int32).toNatClampNeg) (ms_la τ (m_la τ + m_bg τ))) hT2 H locs ls hP hD hS (lv_sub hl [1, 2, 0] rfl)
set_option maxRecDepth 100000 in
set_option maxHeartbeats 4000000 in
theorem cMM_take (l : Launch) (D : va_G) (O : Nat → Nat) (K : Nat → ClassId) (n : Int32) (σ : SM) (RR : Int32 × SM) (hg : mTake n σ RR) : cI l yX2_take wsX2_take { frames := 4, cells := 0, slots := 0, locals := 400 } 0 0 D (mT K) (mW O K) σ [.ref (O 0), .int n] RR := by
  intro sz
  refine z_start (cc := cX2_take) (maxL := 7) (ret := (some .int)) (Qc := fun A => va_Qi (fun r9 u9 => r9 = RR.1 ∧ u9 = RR.2) (zB D (mT K) (mW O K) A) A) sz (by decide) rfl (Nat.le_of_ble_eq_true rfl) ?_
  intro p e s m below meth c A X hA hK hP hD hS ls hl
  obtain ⟨hx, hb, hr, hml, hts, hown, hlocks, hnm⟩ := X
  have hown : s.vm.findClass RX2 = some m.cls := hown
  have hl : lv_has ls 7 [(0, .ref (O 0)), (1, .int n)] := hl
  have inW : ∀ w ∈ wsX20, w ∈ wsX2_take := fun w h => List.mem_cons_of_mem _ (List.mem_append_right _ h)
  have XX : CallFix p m c cX2_take 7 s _ wsX2_take RX2 := ⟨hx, hb, hml, hown, hts⟩
  have k112 := hts (.fieldLink RX2 112 "MailRoomModel" "latest" "I") (List.mem_of_getElem? (i := 1) rfl)
  refine lv_iload_n hx hb dX2_take_0 rfl (lv_at hl 1 rfl) ?_
  refine lv_iconst (v := 1) hx hb dX2_take_1 (by decide) ?_
  refine lv_bipush (v := 6) hx hb dX2_take_2 (by decide) ?_
  refine z_calls (As := [.int n, .int 1, .int 6]) (rest := []) XX (cMM_in l n 1 6) (va_cwS 3 hts gX2_take_X2_in rfl rfl rfl qX2_in ⟨by decide, by decide⟩) rfl hl.1 rfl (Nat.le_of_ble_eq_true rfl) dX2_take_4 ⟨Nat.zero_le _, Nat.zero_le _⟩ ?_
  refine lv_if_ne (tgt := 13) hx hb dX2_take_7 (by decide) (fun c7 => ?_) (fun c7 => ?_)
  · refine lv_aload_n hx hb dX2_take_13 rfl (lv_at hl 0 rfl) ?_
    refine lv_iconst (v := 0) hx hb dX2_take_14 (by decide) ?_
    refine m_pi_la hx hb hts inW hown hK hP hD hS k112 dX2_take_15 (fun H locs hP hD hS => ?_)
    refine lv_iconst (v := 0) hx hb dX2_take_18 (by decide) ?_
    refine lv_istore_n (lv' := [(2, .int 0), (0, .ref (O 0)), (1, .int n)]) hx hb dX2_take_19 rfl hl (by decide) rfl (fun ls hl => ?_)
    exact cMM_takeL XX hr hlocks hA hK n RR 7 0 (ms_la σ 0) (hg.2 c7) H locs ls hP hD hS (lv_sub hl [1, 2, 0] rfl)
  · refine lv_bipush (v := (-3)) hx hb dX2_take_10 (by decide) ?_
    exact z_reti hx hb hr hlocks rfl hK hP hD hS (hg.1 c7) dX2_take_12
