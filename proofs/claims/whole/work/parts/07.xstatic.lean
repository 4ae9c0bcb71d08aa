theorem qX1_act : yX1_act.cls = RX1 ∧ yX1_act.cls ≠ "java/lang/invoke/MethodHandle" ∧ yX1_act.cls ≠ "java/lang/invoke/VarHandle" ∧ (parseMethodDescriptor yX1_act.desc).map (fun d => d.parameters.length) = some 3 := by decide +kernel
theorem qX1_begin : yX1_begin.cls = RX1 ∧ yX1_begin.cls ≠ "java/lang/invoke/MethodHandle" ∧ yX1_begin.cls ≠ "java/lang/invoke/VarHandle" ∧ (parseMethodDescriptor yX1_begin.desc).map (fun d => d.parameters.length) = some 3 := by decide +kernel
theorem qX1_both : yX1_both.cls = RX1 ∧ yX1_both.cls ≠ "java/lang/invoke/MethodHandle" ∧ yX1_both.cls ≠ "java/lang/invoke/VarHandle" ∧ (parseMethodDescriptor yX1_both.desc).map (fun d => d.parameters.length) = some 3 := by decide +kernel
theorem qX1_count : yX1_count.cls = RX1 ∧ yX1_count.cls ≠ "java/lang/invoke/MethodHandle" ∧ yX1_count.cls ≠ "java/lang/invoke/VarHandle" ∧ (parseMethodDescriptor yX1_count.desc).map (fun d => d.parameters.length) = some 1 := by decide +kernel
theorem qX1_counted : yX1_counted.cls = RX1 ∧ yX1_counted.cls ≠ "java/lang/invoke/MethodHandle" ∧ yX1_counted.cls ≠ "java/lang/invoke/VarHandle" ∧ (parseMethodDescriptor yX1_counted.desc).map (fun d => d.parameters.length) = some 1 := by decide +kernel
theorem qX1_deliver : yX1_deliver.cls = RX1 ∧ yX1_deliver.cls ≠ "java/lang/invoke/MethodHandle" ∧ yX1_deliver.cls ≠ "java/lang/invoke/VarHandle" ∧ (parseMethodDescriptor yX1_deliver.desc).map (fun d => d.parameters.length) = some 2 := by decide +kernel
theorem qX1_drop : yX1_drop.cls = RX1 ∧ yX1_drop.cls ≠ "java/lang/invoke/MethodHandle" ∧ yX1_drop.cls ≠ "java/lang/invoke/VarHandle" ∧ (parseMethodDescriptor yX1_drop.desc).map (fun d => d.parameters.length) = some 1 := by decide +kernel
theorem qX1_enqueue : yX1_enqueue.cls = RX1 ∧ yX1_enqueue.cls ≠ "java/lang/invoke/MethodHandle" ∧ yX1_enqueue.cls ≠ "java/lang/invoke/VarHandle" ∧ (parseMethodDescriptor yX1_enqueue.desc).map (fun d => d.parameters.length) = some 2 := by decide +kernel
theorem qX1_failed : yX1_failed.cls = RX1 ∧ yX1_failed.cls ≠ "java/lang/invoke/MethodHandle" ∧ yX1_failed.cls ≠ "java/lang/invoke/VarHandle" ∧ (parseMethodDescriptor yX1_failed.desc).map (fun d => d.parameters.length) = some 2 := by decide +kernel
theorem qX1_give : yX1_give.cls = RX1 ∧ yX1_give.cls ≠ "java/lang/invoke/MethodHandle" ∧ yX1_give.cls ≠ "java/lang/invoke/VarHandle" ∧ (parseMethodDescriptor yX1_give.desc).map (fun d => d.parameters.length) = some 2 := by decide +kernel
theorem qX1_handle : yX1_handle.cls = RX1 ∧ yX1_handle.cls ≠ "java/lang/invoke/MethodHandle" ∧ yX1_handle.cls ≠ "java/lang/invoke/VarHandle" ∧ (parseMethodDescriptor yX1_handle.desc).map (fun d => d.parameters.length) = some 5 := by decide +kernel
theorem qX1_handlerOf : yX1_handlerOf.cls = RX1 ∧ yX1_handlerOf.cls ≠ "java/lang/invoke/MethodHandle" ∧ yX1_handlerOf.cls ≠ "java/lang/invoke/VarHandle" ∧ (parseMethodDescriptor yX1_handlerOf.desc).map (fun d => d.parameters.length) = some 1 := by decide +kernel
theorem qX1_has : yX1_has.cls = RX1 ∧ yX1_has.cls ≠ "java/lang/invoke/MethodHandle" ∧ yX1_has.cls ≠ "java/lang/invoke/VarHandle" ∧ (parseMethodDescriptor yX1_has.desc).map (fun d => d.parameters.length) = some 1 := by decide +kernel
theorem qX1_isBox : yX1_isBox.cls ≠ "java/lang/invoke/MethodHandle" ∧ yX1_isBox.cls ≠ "java/lang/invoke/VarHandle" ∧ (parseMethodDescriptor yX1_isBox.desc).map (fun d => d.parameters.length) = some 1 := by decide +kernel
theorem qX1_isFailedKept : yX1_isFailedKept.cls = RX1 ∧ yX1_isFailedKept.cls ≠ "java/lang/invoke/MethodHandle" ∧ yX1_isFailedKept.cls ≠ "java/lang/invoke/VarHandle" ∧ (parseMethodDescriptor yX1_isFailedKept.desc).map (fun d => d.parameters.length) = some 1 := by decide +kernel
theorem qX1_isKind : yX1_isKind.cls ≠ "java/lang/invoke/MethodHandle" ∧ yX1_isKind.cls ≠ "java/lang/invoke/VarHandle" ∧ (parseMethodDescriptor yX1_isKind.desc).map (fun d => d.parameters.length) = some 1 := by decide +kernel
theorem qX1_keep : yX1_keep.cls = RX1 ∧ yX1_keep.cls ≠ "java/lang/invoke/MethodHandle" ∧ yX1_keep.cls ≠ "java/lang/invoke/VarHandle" ∧ (parseMethodDescriptor yX1_keep.desc).map (fun d => d.parameters.length) = some 2 := by decide +kernel
theorem qX1_keepAndSend : yX1_keepAndSend.cls = RX1 ∧ yX1_keepAndSend.cls ≠ "java/lang/invoke/MethodHandle" ∧ yX1_keepAndSend.cls ≠ "java/lang/invoke/VarHandle" ∧ (parseMethodDescriptor yX1_keepAndSend.desc).map (fun d => d.parameters.length) = some 2 := by decide +kernel
theorem qX1_keepFailure : yX1_keepFailure.cls = RX1 ∧ yX1_keepFailure.cls ≠ "java/lang/invoke/MethodHandle" ∧ yX1_keepFailure.cls ≠ "java/lang/invoke/VarHandle" ∧ (parseMethodDescriptor yX1_keepFailure.desc).map (fun d => d.parameters.length) = some 3 := by decide +kernel
theorem qX1_limit : yX1_limit.cls = RX1 ∧ yX1_limit.cls ≠ "java/lang/invoke/MethodHandle" ∧ yX1_limit.cls ≠ "java/lang/invoke/VarHandle" ∧ (parseMethodDescriptor yX1_limit.desc).map (fun d => d.parameters.length) = some 3 := by decide +kernel
theorem qX1_mean : yX1_mean.cls = RX1 ∧ yX1_mean.cls ≠ "java/lang/invoke/MethodHandle" ∧ yX1_mean.cls ≠ "java/lang/invoke/VarHandle" ∧ (parseMethodDescriptor yX1_mean.desc).map (fun d => d.parameters.length) = some 3 := by decide +kernel
theorem qX1_namesKnown : yX1_namesKnown.cls ≠ "java/lang/invoke/MethodHandle" ∧ yX1_namesKnown.cls ≠ "java/lang/invoke/VarHandle" ∧ (parseMethodDescriptor yX1_namesKnown.desc).map (fun d => d.parameters.length) = some 3 := by decide +kernel
theorem qX1_noteFailed : yX1_noteFailed.cls = RX1 ∧ yX1_noteFailed.cls ≠ "java/lang/invoke/MethodHandle" ∧ yX1_noteFailed.cls ≠ "java/lang/invoke/VarHandle" ∧ (parseMethodDescriptor yX1_noteFailed.desc).map (fun d => d.parameters.length) = some 3 := by decide +kernel
theorem qX1_once : yX1_once.cls = RX1 ∧ yX1_once.cls ≠ "java/lang/invoke/MethodHandle" ∧ yX1_once.cls ≠ "java/lang/invoke/VarHandle" ∧ (parseMethodDescriptor yX1_once.desc).map (fun d => d.parameters.length) = some 2 := by decide +kernel
theorem qX1_post : yX1_post.cls = RX1 ∧ yX1_post.cls ≠ "java/lang/invoke/MethodHandle" ∧ yX1_post.cls ≠ "java/lang/invoke/VarHandle" ∧ (parseMethodDescriptor yX1_post.desc).map (fun d => d.parameters.length) = some 2 := by decide +kernel
theorem qX1_share : yX1_share.cls = RX1 ∧ yX1_share.cls ≠ "java/lang/invoke/MethodHandle" ∧ yX1_share.cls ≠ "java/lang/invoke/VarHandle" ∧ (parseMethodDescriptor yX1_share.desc).map (fun d => d.parameters.length) = some 2 := by decide +kernel
theorem qX1_sift : yX1_sift.cls = RX1 ∧ yX1_sift.cls ≠ "java/lang/invoke/MethodHandle" ∧ yX1_sift.cls ≠ "java/lang/invoke/VarHandle" ∧ (parseMethodDescriptor yX1_sift.desc).map (fun d => d.parameters.length) = some 3 := by decide +kernel
theorem qX1_sum : yX1_sum.cls = RX1 ∧ yX1_sum.cls ≠ "java/lang/invoke/MethodHandle" ∧ yX1_sum.cls ≠ "java/lang/invoke/VarHandle" ∧ (parseMethodDescriptor yX1_sum.desc).map (fun d => d.parameters.length) = some 1 := by decide +kernel
theorem qX1_take : yX1_take.cls = RX1 ∧ yX1_take.cls ≠ "java/lang/invoke/MethodHandle" ∧ yX1_take.cls ≠ "java/lang/invoke/VarHandle" ∧ (parseMethodDescriptor yX1_take.desc).map (fun d => d.parameters.length) = some 1 := by decide +kernel
theorem qX1_takeFirst : yX1_takeFirst.cls = RX1 ∧ yX1_takeFirst.cls ≠ "java/lang/invoke/MethodHandle" ∧ yX1_takeFirst.cls ≠ "java/lang/invoke/VarHandle" ∧ (parseMethodDescriptor yX1_takeFirst.desc).map (fun d => d.parameters.length) = some 0 := by decide +kernel
theorem qX1_value : yX1_value.cls = RX1 ∧ yX1_value.cls ≠ "java/lang/invoke/MethodHandle" ∧ yX1_value.cls ≠ "java/lang/invoke/VarHandle" ∧ (parseMethodDescriptor yX1_value.desc).map (fun d => d.parameters.length) = some 1 := by decide +kernel
theorem qX2_areKnown : yX2_areKnown.cls ≠ "java/lang/invoke/MethodHandle" ∧ yX2_areKnown.cls ≠ "java/lang/invoke/VarHandle" ∧ (parseMethodDescriptor yX2_areKnown.desc).map (fun d => d.parameters.length) = some 3 := by decide +kernel
theorem qX2_begins : yX2_begins.cls = RX2 ∧ yX2_begins.cls ≠ "java/lang/invoke/MethodHandle" ∧ yX2_begins.cls ≠ "java/lang/invoke/VarHandle" ∧ (parseMethodDescriptor yX2_begins.desc).map (fun d => d.parameters.length) = some 3 := by decide +kernel
theorem qX2_behind : yX2_behind.cls = RX2 ∧ yX2_behind.cls ≠ "java/lang/invoke/MethodHandle" ∧ yX2_behind.cls ≠ "java/lang/invoke/VarHandle" ∧ (parseMethodDescriptor yX2_behind.desc).map (fun d => d.parameters.length) = some 3 := by decide +kernel
theorem qX2_call : yX2_call.cls = RX2 ∧ yX2_call.cls ≠ "java/lang/invoke/MethodHandle" ∧ yX2_call.cls ≠ "java/lang/invoke/VarHandle" ∧ (parseMethodDescriptor yX2_call.desc).map (fun d => d.parameters.length) = some 2 := by decide +kernel
theorem qX2_comes : yX2_comes.cls = RX2 ∧ yX2_comes.cls ≠ "java/lang/invoke/MethodHandle" ∧ yX2_comes.cls ≠ "java/lang/invoke/VarHandle" ∧ (parseMethodDescriptor yX2_comes.desc).map (fun d => d.parameters.length) = some 2 := by decide +kernel
theorem qX2_count : yX2_count.cls = RX2 ∧ yX2_count.cls ≠ "java/lang/invoke/MethodHandle" ∧ yX2_count.cls ≠ "java/lang/invoke/VarHandle" ∧ (parseMethodDescriptor yX2_count.desc).map (fun d => d.parameters.length) = some 1 := by decide +kernel
theorem qX2_counted : yX2_counted.cls = RX2 ∧ yX2_counted.cls ≠ "java/lang/invoke/MethodHandle" ∧ yX2_counted.cls ≠ "java/lang/invoke/VarHandle" ∧ (parseMethodDescriptor yX2_counted.desc).map (fun d => d.parameters.length) = some 1 := by decide +kernel
theorem qX2_drop : yX2_drop.cls = RX2 ∧ yX2_drop.cls ≠ "java/lang/invoke/MethodHandle" ∧ yX2_drop.cls ≠ "java/lang/invoke/VarHandle" ∧ (parseMethodDescriptor yX2_drop.desc).map (fun d => d.parameters.length) = some 1 := by decide +kernel
theorem qX2_ends : yX2_ends.cls = RX2 ∧ yX2_ends.cls ≠ "java/lang/invoke/MethodHandle" ∧ yX2_ends.cls ≠ "java/lang/invoke/VarHandle" ∧ (parseMethodDescriptor yX2_ends.desc).map (fun d => d.parameters.length) = some 1 := by decide +kernel
theorem qX2_failed : yX2_failed.cls = RX2 ∧ yX2_failed.cls ≠ "java/lang/invoke/MethodHandle" ∧ yX2_failed.cls ≠ "java/lang/invoke/VarHandle" ∧ (parseMethodDescriptor yX2_failed.desc).map (fun d => d.parameters.length) = some 2 := by decide +kernel
theorem qX2_falls : yX2_falls.cls = RX2 ∧ yX2_falls.cls ≠ "java/lang/invoke/MethodHandle" ∧ yX2_falls.cls ≠ "java/lang/invoke/VarHandle" ∧ (parseMethodDescriptor yX2_falls.desc).map (fun d => d.parameters.length) = some 2 := by decide +kernel
theorem qX2_give : yX2_give.cls = RX2 ∧ yX2_give.cls ≠ "java/lang/invoke/MethodHandle" ∧ yX2_give.cls ≠ "java/lang/invoke/VarHandle" ∧ (parseMethodDescriptor yX2_give.desc).map (fun d => d.parameters.length) = some 2 := by decide +kernel
theorem qX2_go : yX2_go.cls = RX2 ∧ yX2_go.cls ≠ "java/lang/invoke/MethodHandle" ∧ yX2_go.cls ≠ "java/lang/invoke/VarHandle" ∧ (parseMethodDescriptor yX2_go.desc).map (fun d => d.parameters.length) = some 2 := by decide +kernel
theorem qX2_goOn : yX2_goOn.cls = RX2 ∧ yX2_goOn.cls ≠ "java/lang/invoke/MethodHandle" ∧ yX2_goOn.cls ≠ "java/lang/invoke/VarHandle" ∧ (parseMethodDescriptor yX2_goOn.desc).map (fun d => d.parameters.length) = some 3 := by decide +kernel
theorem qX2_handle : yX2_handle.cls = RX2 ∧ yX2_handle.cls ≠ "java/lang/invoke/MethodHandle" ∧ yX2_handle.cls ≠ "java/lang/invoke/VarHandle" ∧ (parseMethodDescriptor yX2_handle.desc).map (fun d => d.parameters.length) = some 5 := by decide +kernel
theorem qX2_has : yX2_has.cls = RX2 ∧ yX2_has.cls ≠ "java/lang/invoke/MethodHandle" ∧ yX2_has.cls ≠ "java/lang/invoke/VarHandle" ∧ (parseMethodDescriptor yX2_has.desc).map (fun d => d.parameters.length) = some 1 := by decide +kernel
theorem qX2_in : yX2_in.cls ≠ "java/lang/invoke/MethodHandle" ∧ yX2_in.cls ≠ "java/lang/invoke/VarHandle" ∧ (parseMethodDescriptor yX2_in.desc).map (fun d => d.parameters.length) = some 3 := by decide +kernel
theorem qX2_isBox : yX2_isBox.cls ≠ "java/lang/invoke/MethodHandle" ∧ yX2_isBox.cls ≠ "java/lang/invoke/VarHandle" ∧ (parseMethodDescriptor yX2_isBox.desc).map (fun d => d.parameters.length) = some 1 := by decide +kernel
theorem qX2_isKind : yX2_isKind.cls ≠ "java/lang/invoke/MethodHandle" ∧ yX2_isKind.cls ≠ "java/lang/invoke/VarHandle" ∧ (parseMethodDescriptor yX2_isKind.desc).map (fun d => d.parameters.length) = some 1 := by decide +kernel
theorem qX2_keep : yX2_keep.cls = RX2 ∧ yX2_keep.cls ≠ "java/lang/invoke/MethodHandle" ∧ yX2_keep.cls ≠ "java/lang/invoke/VarHandle" ∧ (parseMethodDescriptor yX2_keep.desc).map (fun d => d.parameters.length) = some 2 := by decide +kernel
theorem qX2_post : yX2_post.cls = RX2 ∧ yX2_post.cls ≠ "java/lang/invoke/MethodHandle" ∧ yX2_post.cls ≠ "java/lang/invoke/VarHandle" ∧ (parseMethodDescriptor yX2_post.desc).map (fun d => d.parameters.length) = some 2 := by decide +kernel
theorem qX2_sends : yX2_sends.cls = RX2 ∧ yX2_sends.cls ≠ "java/lang/invoke/MethodHandle" ∧ yX2_sends.cls ≠ "java/lang/invoke/VarHandle" ∧ (parseMethodDescriptor yX2_sends.desc).map (fun d => d.parameters.length) = some 2 := by decide +kernel
theorem qX2_shares : yX2_shares.cls = RX2 ∧ yX2_shares.cls ≠ "java/lang/invoke/MethodHandle" ∧ yX2_shares.cls ≠ "java/lang/invoke/VarHandle" ∧ (parseMethodDescriptor yX2_shares.desc).map (fun d => d.parameters.length) = some 4 := by decide +kernel
theorem qX2_sum : yX2_sum.cls = RX2 ∧ yX2_sum.cls ≠ "java/lang/invoke/MethodHandle" ∧ yX2_sum.cls ≠ "java/lang/invoke/VarHandle" ∧ (parseMethodDescriptor yX2_sum.desc).map (fun d => d.parameters.length) = some 1 := by decide +kernel
theorem qX2_take : yX2_take.cls = RX2 ∧ yX2_take.cls ≠ "java/lang/invoke/MethodHandle" ∧ yX2_take.cls ≠ "java/lang/invoke/VarHandle" ∧ (parseMethodDescriptor yX2_take.desc).map (fun d => d.parameters.length) = some 1 := by decide +kernel
theorem qX2_value : yX2_value.cls = RX2 ∧ yX2_value.cls ≠ "java/lang/invoke/MethodHandle" ∧ yX2_value.cls ≠ "java/lang/invoke/VarHandle" ∧ (parseMethodDescriptor yX2_value.desc).map (fun d => d.parameters.length) = some 1 := by decide +kernel
noncomputable def xf_isKind  (k : Int32) : Int32 := if k < 0 then 0 else (if 10 ≤ k then 0 else 1)
set_option maxRecDepth 100000 in
set_option maxHeartbeats 4000000 in
theorem cx_isKind (l : Launch) (k : Int32) : cS l yX1_isKind wsX1_isKind { frames := 0, cells := 0, slots := 0, locals := 0 } [.int k] (xf_isKind k) := by
  refine z_startS (cc := cX1_isKind) (maxL := 1) (ret := (some .boolean)) (by decide) rfl (Nat.le_of_ble_eq_true rfl) ?_
  intro p e s m below meth c X ls hl
  obtain ⟨hx, hb, hr, hml, hts, hown, hlocks, hnm⟩ := X
  have hown : s.vm.findClass RX1 = some m.cls := hown
  have hl : lv_has ls 1 [(0, .int k)] := hl
  have XX : CallFix p m c cX1_isKind 1 s _ wsX1_isKind RX1 := ⟨hx, hb, hml, hown, hts⟩
  refine lv_iload_n hx hb dX1_isKind_0 rfl (lv_at hl 0 rfl) ?_
  refine lv_if_lt (tgt := 14) hx hb dX1_isKind_1 (by decide) (fun c1 => ?_) (fun c1 => ?_)
  · refine lv_iconst (v := 0) hx hb dX1_isKind_14 (by decide) ?_
    exact z_retS hx hb hr hlocks (rfl) (((if_pos c1).trans (rfl)).symm) dX1_isKind_15
  · refine lv_iload_n hx hb dX1_isKind_4 rfl (lv_at hl 0 rfl) ?_
    refine lv_bipush (v := 10) hx hb dX1_isKind_5 (by decide) ?_
    refine lv_icmp_ge (tgt := 14) hx hb dX1_isKind_7 (by decide) (fun c7 => ?_) (fun c7 => ?_)
    · refine lv_iconst (v := 0) hx hb dX1_isKind_14 (by decide) ?_
      exact z_retS hx hb hr hlocks (rfl) (((if_neg c1).trans ((if_pos c7).trans (rfl))).symm) dX1_isKind_15
    · refine lv_iconst (v := 1) hx hb dX1_isKind_10 (by decide) ?_
      refine lv_goto (tgt := 15) hx hb dX1_isKind_11 (by decide) ?_
      exact z_retS hx hb hr hlocks (rfl) (((if_neg c1).trans ((if_neg c7).trans (rfl))).symm) dX1_isKind_15
theorem nb_xf_isKind (k : Int32) : narrow .boolean (.int (xf_isKind k)) = .int (xf_isKind k) := by
  unfold xf_isKind
  repeat' split
  all_goals first | rfl | exact nb_xf_isBox .. | exact nb_xf_isKind ..
noncomputable def xf_isBox  (b : Int32) : Int32 := if b < 0 then 0 else (if 6 ≤ b then 0 else 1)
set_option maxRecDepth 100000 in
set_option maxHeartbeats 4000000 in
theorem cx_isBox (l : Launch) (b : Int32) : cS l yX1_isBox wsX1_isBox { frames := 0, cells := 0, slots := 0, locals := 0 } [.int b] (xf_isBox b) := by
  refine z_startS (cc := cX1_isBox) (maxL := 1) (ret := (some .boolean)) (by decide) rfl (Nat.le_of_ble_eq_true rfl) ?_
  intro p e s m below meth c X ls hl
  obtain ⟨hx, hb, hr, hml, hts, hown, hlocks, hnm⟩ := X
  have hown : s.vm.findClass RX1 = some m.cls := hown
  have hl : lv_has ls 1 [(0, .int b)] := hl
  have XX : CallFix p m c cX1_isBox 1 s _ wsX1_isBox RX1 := ⟨hx, hb, hml, hown, hts⟩
  refine lv_iload_n hx hb dX1_isBox_0 rfl (lv_at hl 0 rfl) ?_
  refine lv_if_lt (tgt := 14) hx hb dX1_isBox_1 (by decide) (fun c1 => ?_) (fun c1 => ?_)
  · refine lv_iconst (v := 0) hx hb dX1_isBox_14 (by decide) ?_
    exact z_retS hx hb hr hlocks (rfl) (((if_pos c1).trans (rfl)).symm) dX1_isBox_15
  · refine lv_iload_n hx hb dX1_isBox_4 rfl (lv_at hl 0 rfl) ?_
    refine lv_bipush (v := 6) hx hb dX1_isBox_5 (by decide) ?_
    refine lv_icmp_ge (tgt := 14) hx hb dX1_isBox_7 (by decide) (fun c7 => ?_) (fun c7 => ?_)
    · refine lv_iconst (v := 0) hx hb dX1_isBox_14 (by decide) ?_
      exact z_retS hx hb hr hlocks (rfl) (((if_neg c1).trans ((if_pos c7).trans (rfl))).symm) dX1_isBox_15
    · refine lv_iconst (v := 1) hx hb dX1_isBox_10 (by decide) ?_
      refine lv_goto (tgt := 15) hx hb dX1_isBox_11 (by decide) ?_
      exact z_retS hx hb hr hlocks (rfl) (((if_neg c1).trans ((if_neg c7).trans (rfl))).symm) dX1_isBox_15
theorem nb_xf_isBox (b : Int32) : narrow .boolean (.int (xf_isBox b)) = .int (xf_isBox b) := by
  unfold xf_isBox
  repeat' split
  all_goals first | rfl | exact nb_xf_isBox .. | exact nb_xf_isKind ..
noncomputable def xf_namesKnown  (sort : Int32) (a : Int32) (b : Int32) : Int32 := if sort = 0 then (xf_isBox a) else (if sort = 1 then (xf_isKind a) else (if sort = 2 then (xf_isKind a) else (if sort = 3 then (xf_isKind a) else (if sort = 4 then 1 else (if sort = 5 then 1 else (if sort = 6 then (xf_isBox a) else (if sort = 7 then (xf_isKind a) else (if sort = 8 then (if (xf_isBox a) = 0 then 0 else (if (xf_isBox b) = 0 then 0 else 1)) else (if sort = 9 then 1 else (if sort = 10 then (xf_isBox a) else (if sort = 11 then (xf_isBox a) else 1)))))))))))
set_option maxRecDepth 100000 in
set_option maxHeartbeats 4000000 in
theorem cx_namesKnown (l : Launch) (sort : Int32) (a : Int32) (b : Int32) : cS l yX1_namesKnown wsX1_namesKnown { frames := 1, cells := 0, slots := 0, locals := 100 } [.int sort, .int a, .int b] (xf_namesKnown sort a b) := by
  refine z_startS (cc := cX1_namesKnown) (maxL := 3) (ret := (some .boolean)) (by decide) rfl (Nat.le_of_ble_eq_true rfl) ?_
  intro p e s m below meth c X ls hl
  obtain ⟨hx, hb, hr, hml, hts, hown, hlocks, hnm⟩ := X
  have hown : s.vm.findClass RX1 = some m.cls := hown
  have hl : lv_has ls 3 [(0, .int sort), (1, .int a), (2, .int b)] := hl
  have XX : CallFix p m c cX1_namesKnown 3 s _ wsX1_namesKnown RX1 := ⟨hx, hb, hml, hown, hts⟩
  refine lv_iload_n hx hb dX1_namesKnown_0 rfl (lv_at hl 0 rfl) ?_
  by_cases t1_0 : sort = 0
  · refine lv_tableIn (off := 63) (tgt := 64) hx hb dX1_namesKnown_1 (by rw [t1_0]; decide) (by rw [t1_0]; decide) (by rw [t1_0]; rfl) (by decide) ?_
    refine lv_iload_n hx hb dX1_namesKnown_64 rfl (lv_at hl 1 rfl) ?_
    refine z_calls (As := [.int a]) (rest := []) XX (cx_isBox l a) (va_cwS 1 hts gX1_namesKnown_X1_isBox rfl rfl rfl qX1_isBox ⟨by decide, by decide⟩) rfl hl.1 rfl (Nat.le_of_ble_eq_true rfl) dX1_namesKnown_65 ⟨Nat.zero_le _, Nat.zero_le _⟩ ?_
    exact z_retS hx hb hr hlocks (nb_xf_isBox ..) (((if_pos t1_0).trans (rfl)).symm) dX1_namesKnown_68
  · by_cases t1_1 : sort = 1
    · refine lv_tableIn (off := 88) (tgt := 89) hx hb dX1_namesKnown_1 (by rw [t1_1]; decide) (by rw [t1_1]; decide) (by rw [t1_1]; rfl) (by decide) ?_
      refine lv_iload_n hx hb dX1_namesKnown_89 rfl (lv_at hl 1 rfl) ?_
      refine z_calls (As := [.int a]) (rest := []) XX (cx_isKind l a) (va_cwS 1 hts gX1_namesKnown_X1_isKind rfl rfl rfl qX1_isKind ⟨by decide, by decide⟩) rfl hl.1 rfl (Nat.le_of_ble_eq_true rfl) dX1_namesKnown_90 ⟨Nat.zero_le _, Nat.zero_le _⟩ ?_
      exact z_retS hx hb hr hlocks (nb_xf_isKind ..) (((if_neg t1_0).trans ((if_pos t1_1).trans (rfl))).symm) dX1_namesKnown_93
    · by_cases t1_2 : sort = 2
      · refine lv_tableIn (off := 88) (tgt := 89) hx hb dX1_namesKnown_1 (by rw [t1_2]; decide) (by rw [t1_2]; decide) (by rw [t1_2]; rfl) (by decide) ?_
        refine lv_iload_n hx hb dX1_namesKnown_89 rfl (lv_at hl 1 rfl) ?_
        refine z_calls (As := [.int a]) (rest := []) XX (cx_isKind l a) (va_cwS 1 hts gX1_namesKnown_X1_isKind rfl rfl rfl qX1_isKind ⟨by decide, by decide⟩) rfl hl.1 rfl (Nat.le_of_ble_eq_true rfl) dX1_namesKnown_90 ⟨Nat.zero_le _, Nat.zero_le _⟩ ?_
        exact z_retS hx hb hr hlocks (nb_xf_isKind ..) (((if_neg t1_0).trans ((if_neg t1_1).trans ((if_pos t1_2).trans (rfl)))).symm) dX1_namesKnown_93
      · by_cases t1_3 : sort = 3
        · refine lv_tableIn (off := 88) (tgt := 89) hx hb dX1_namesKnown_1 (by rw [t1_3]; decide) (by rw [t1_3]; decide) (by rw [t1_3]; rfl) (by decide) ?_
          refine lv_iload_n hx hb dX1_namesKnown_89 rfl (lv_at hl 1 rfl) ?_
          refine z_calls (As := [.int a]) (rest := []) XX (cx_isKind l a) (va_cwS 1 hts gX1_namesKnown_X1_isKind rfl rfl rfl qX1_isKind ⟨by decide, by decide⟩) rfl hl.1 rfl (Nat.le_of_ble_eq_true rfl) dX1_namesKnown_90 ⟨Nat.zero_le _, Nat.zero_le _⟩ ?_
          exact z_retS hx hb hr hlocks (nb_xf_isKind ..) (((if_neg t1_0).trans ((if_neg t1_1).trans ((if_neg t1_2).trans ((if_pos t1_3).trans (rfl))))).symm) dX1_namesKnown_93
        · by_cases t1_4 : sort = 4
          · refine lv_tableIn (off := 93) (tgt := 94) hx hb dX1_namesKnown_1 (by rw [t1_4]; decide) (by rw [t1_4]; decide) (by rw [t1_4]; rfl) (by decide) ?_
            refine lv_iconst (v := 1) hx hb dX1_namesKnown_94 (by decide) ?_
            exact z_retS hx hb hr hlocks (rfl) (((if_neg t1_0).trans ((if_neg t1_1).trans ((if_neg t1_2).trans ((if_neg t1_3).trans ((if_pos t1_4).trans (rfl)))))).symm) dX1_namesKnown_95
          · by_cases t1_5 : sort = 5
            · refine lv_tableIn (off := 93) (tgt := 94) hx hb dX1_namesKnown_1 (by rw [t1_5]; decide) (by rw [t1_5]; decide) (by rw [t1_5]; rfl) (by decide) ?_
              refine lv_iconst (v := 1) hx hb dX1_namesKnown_94 (by decide) ?_
              exact z_retS hx hb hr hlocks (rfl) (((if_neg t1_0).trans ((if_neg t1_1).trans ((if_neg t1_2).trans ((if_neg t1_3).trans ((if_neg t1_4).trans ((if_pos t1_5).trans (rfl))))))).symm) dX1_namesKnown_95
            · by_cases t1_6 : sort = 6
              · refine lv_tableIn (off := 63) (tgt := 64) hx hb dX1_namesKnown_1 (by rw [t1_6]; decide) (by rw [t1_6]; decide) (by rw [t1_6]; rfl) (by decide) ?_
                refine lv_iload_n hx hb dX1_namesKnown_64 rfl (lv_at hl 1 rfl) ?_
                refine z_calls (As := [.int a]) (rest := []) XX (cx_isBox l a) (va_cwS 1 hts gX1_namesKnown_X1_isBox rfl rfl rfl qX1_isBox ⟨by decide, by decide⟩) rfl hl.1 rfl (Nat.le_of_ble_eq_true rfl) dX1_namesKnown_65 ⟨Nat.zero_le _, Nat.zero_le _⟩ ?_
                exact z_retS hx hb hr hlocks (nb_xf_isBox ..) (((if_neg t1_0).trans ((if_neg t1_1).trans ((if_neg t1_2).trans ((if_neg t1_3).trans ((if_neg t1_4).trans ((if_neg t1_5).trans ((if_pos t1_6).trans (rfl)))))))).symm) dX1_namesKnown_68
              · by_cases t1_7 : sort = 7
                · refine lv_tableIn (off := 88) (tgt := 89) hx hb dX1_namesKnown_1 (by rw [t1_7]; decide) (by rw [t1_7]; decide) (by rw [t1_7]; rfl) (by decide) ?_
                  refine lv_iload_n hx hb dX1_namesKnown_89 rfl (lv_at hl 1 rfl) ?_
                  refine z_calls (As := [.int a]) (rest := []) XX (cx_isKind l a) (va_cwS 1 hts gX1_namesKnown_X1_isKind rfl rfl rfl qX1_isKind ⟨by decide, by decide⟩) rfl hl.1 rfl (Nat.le_of_ble_eq_true rfl) dX1_namesKnown_90 ⟨Nat.zero_le _, Nat.zero_le _⟩ ?_
                  exact z_retS hx hb hr hlocks (nb_xf_isKind ..) (((if_neg t1_0).trans ((if_neg t1_1).trans ((if_neg t1_2).trans ((if_neg t1_3).trans ((if_neg t1_4).trans ((if_neg t1_5).trans ((if_neg t1_6).trans ((if_pos t1_7).trans (rfl))))))))).symm) dX1_namesKnown_93
                · by_cases t1_8 : sort = 8
                  · refine lv_tableIn (off := 68) (tgt := 69) hx hb dX1_namesKnown_1 (by rw [t1_8]; decide) (by rw [t1_8]; decide) (by rw [t1_8]; rfl) (by decide) ?_
                    refine lv_iload_n hx hb dX1_namesKnown_69 rfl (lv_at hl 1 rfl) ?_
                    refine z_calls (As := [.int a]) (rest := []) XX (cx_isBox l a) (va_cwS 1 hts gX1_namesKnown_X1_isBox rfl rfl rfl qX1_isBox ⟨by decide, by decide⟩) rfl hl.1 rfl (Nat.le_of_ble_eq_true rfl) dX1_namesKnown_70 ⟨Nat.zero_le _, Nat.zero_le _⟩ ?_
                    refine lv_if_eq (tgt := 87) hx hb dX1_namesKnown_73 (by decide) (fun c73 => ?_) (fun c73 => ?_)
                    · refine lv_iconst (v := 0) hx hb dX1_namesKnown_87 (by decide) ?_
                      exact z_retS hx hb hr hlocks (rfl) (((if_neg t1_0).trans ((if_neg t1_1).trans ((if_neg t1_2).trans ((if_neg t1_3).trans ((if_neg t1_4).trans ((if_neg t1_5).trans ((if_neg t1_6).trans ((if_neg t1_7).trans ((if_pos t1_8).trans ((if_pos c73).trans (rfl))))))))))).symm) dX1_namesKnown_88
                    · refine lv_iload_n hx hb dX1_namesKnown_76 rfl (lv_at hl 2 rfl) ?_
                      refine z_calls (As := [.int b]) (rest := []) XX (cx_isBox l b) (va_cwS 1 hts gX1_namesKnown_X1_isBox rfl rfl rfl qX1_isBox ⟨by decide, by decide⟩) rfl hl.1 rfl (Nat.le_of_ble_eq_true rfl) dX1_namesKnown_77 ⟨Nat.zero_le _, Nat.zero_le _⟩ ?_
                      refine lv_if_eq (tgt := 87) hx hb dX1_namesKnown_80 (by decide) (fun c80 => ?_) (fun c80 => ?_)
                      · refine lv_iconst (v := 0) hx hb dX1_namesKnown_87 (by decide) ?_
                        exact z_retS hx hb hr hlocks (rfl) (((if_neg t1_0).trans ((if_neg t1_1).trans ((if_neg t1_2).trans ((if_neg t1_3).trans ((if_neg t1_4).trans ((if_neg t1_5).trans ((if_neg t1_6).trans ((if_neg t1_7).trans ((if_pos t1_8).trans ((if_neg c73).trans ((if_pos c80).trans (rfl)))))))))))).symm) dX1_namesKnown_88
                      · refine lv_iconst (v := 1) hx hb dX1_namesKnown_83 (by decide) ?_
                        refine lv_goto (tgt := 88) hx hb dX1_namesKnown_84 (by decide) ?_
                        exact z_retS hx hb hr hlocks (rfl) (((if_neg t1_0).trans ((if_neg t1_1).trans ((if_neg t1_2).trans ((if_neg t1_3).trans ((if_neg t1_4).trans ((if_neg t1_5).trans ((if_neg t1_6).trans ((if_neg t1_7).trans ((if_pos t1_8).trans ((if_neg c73).trans ((if_neg c80).trans (rfl)))))))))))).symm) dX1_namesKnown_88
                  · by_cases t1_9 : sort = 9
                    · refine lv_tableIn (off := 93) (tgt := 94) hx hb dX1_namesKnown_1 (by rw [t1_9]; decide) (by rw [t1_9]; decide) (by rw [t1_9]; rfl) (by decide) ?_
                      refine lv_iconst (v := 1) hx hb dX1_namesKnown_94 (by decide) ?_
                      exact z_retS hx hb hr hlocks (rfl) (((if_neg t1_0).trans ((if_neg t1_1).trans ((if_neg t1_2).trans ((if_neg t1_3).trans ((if_neg t1_4).trans ((if_neg t1_5).trans ((if_neg t1_6).trans ((if_neg t1_7).trans ((if_neg t1_8).trans ((if_pos t1_9).trans (rfl))))))))))).symm) dX1_namesKnown_95
                    · by_cases t1_10 : sort = 10
                      · refine lv_tableIn (off := 63) (tgt := 64) hx hb dX1_namesKnown_1 (by rw [t1_10]; decide) (by rw [t1_10]; decide) (by rw [t1_10]; rfl) (by decide) ?_
                        refine lv_iload_n hx hb dX1_namesKnown_64 rfl (lv_at hl 1 rfl) ?_
                        refine z_calls (As := [.int a]) (rest := []) XX (cx_isBox l a) (va_cwS 1 hts gX1_namesKnown_X1_isBox rfl rfl rfl qX1_isBox ⟨by decide, by decide⟩) rfl hl.1 rfl (Nat.le_of_ble_eq_true rfl) dX1_namesKnown_65 ⟨Nat.zero_le _, Nat.zero_le _⟩ ?_
                        exact z_retS hx hb hr hlocks (nb_xf_isBox ..) (((if_neg t1_0).trans ((if_neg t1_1).trans ((if_neg t1_2).trans ((if_neg t1_3).trans ((if_neg t1_4).trans ((if_neg t1_5).trans ((if_neg t1_6).trans ((if_neg t1_7).trans ((if_neg t1_8).trans ((if_neg t1_9).trans ((if_pos t1_10).trans (rfl)))))))))))).symm) dX1_namesKnown_68
                      · by_cases t1_11 : sort = 11
                        · refine lv_tableIn (off := 63) (tgt := 64) hx hb dX1_namesKnown_1 (by rw [t1_11]; decide) (by rw [t1_11]; decide) (by rw [t1_11]; rfl) (by decide) ?_
                          refine lv_iload_n hx hb dX1_namesKnown_64 rfl (lv_at hl 1 rfl) ?_
                          refine z_calls (As := [.int a]) (rest := []) XX (cx_isBox l a) (va_cwS 1 hts gX1_namesKnown_X1_isBox rfl rfl rfl qX1_isBox ⟨by decide, by decide⟩) rfl hl.1 rfl (Nat.le_of_ble_eq_true rfl) dX1_namesKnown_65 ⟨Nat.zero_le _, Nat.zero_le _⟩ ?_
                          exact z_retS hx hb hr hlocks (nb_xf_isBox ..) (((if_neg t1_0).trans ((if_neg t1_1).trans ((if_neg t1_2).trans ((if_neg t1_3).trans ((if_neg t1_4).trans ((if_neg t1_5).trans ((if_neg t1_6).trans ((if_neg t1_7).trans ((if_neg t1_8).trans ((if_neg t1_9).trans ((if_neg t1_10).trans ((if_pos t1_11).trans (rfl))))))))))))).symm) dX1_namesKnown_68
                        · refine lv_tableOut (tgt := 94) hx hb dX1_namesKnown_1 (z_out 11 (by decide) (fun k hk => match k, hk with | 0, _ => t1_0 | 1, _ => t1_1 | 2, _ => t1_2 | 3, _ => t1_3 | 4, _ => t1_4 | 5, _ => t1_5 | 6, _ => t1_6 | 7, _ => t1_7 | 8, _ => t1_8 | 9, _ => t1_9 | 10, _ => t1_10 | 11, _ => t1_11 | (k + 12), hk => absurd hk (by omega))) (by decide) ?_
                          refine lv_iconst (v := 1) hx hb dX1_namesKnown_94 (by decide) ?_
                          exact z_retS hx hb hr hlocks (rfl) (((if_neg t1_0).trans ((if_neg t1_1).trans ((if_neg t1_2).trans ((if_neg t1_3).trans ((if_neg t1_4).trans ((if_neg t1_5).trans ((if_neg t1_6).trans ((if_neg t1_7).trans ((if_neg t1_8).trans ((if_neg t1_9).trans ((if_neg t1_10).trans ((if_neg t1_11).trans (rfl))))))))))))).symm) dX1_namesKnown_95
theorem nb_xf_namesKnown (sort : Int32) (a : Int32) (b : Int32) : narrow .boolean (.int (xf_namesKnown sort a b)) = .int (xf_namesKnown sort a b) := by
  unfold xf_namesKnown
  repeat' split
  all_goals first | rfl | exact nb_xf_isBox .. | exact nb_xf_isKind ..
theorem xbox_in {b : Int32} (h : ¬ xf_isBox b = 0) : vp_in b 6 := by
  unfold xf_isBox at h
  by_cases h0 : b < 0
  · rw [if_pos h0] at h; exact absurd rfl h
  · rw [if_neg h0] at h
    by_cases h1 : 6 ≤ b
    · rw [if_pos h1] at h; exact absurd rfl h
    · exact z_in (M := 6) rfl (by decide) h0 h1
theorem xkind_in {b : Int32} (h : ¬ xf_isKind b = 0) : vp_in b 10 := by
  unfold xf_isKind at h
  by_cases h0 : b < 0
  · rw [if_pos h0] at h; exact absurd rfl h
  · rw [if_neg h0] at h
    by_cases h1 : 10 ≤ b
    · rw [if_pos h1] at h; exact absurd rfl h
    · exact z_in (M := 10) rfl (by decide) h0 h1
theorem z_ltn {x y : Int32} (h : x < y) : ¬ y ≤ x := by
  rw [Int32.lt_iff_toInt_lt] at h
  rw [Int32.le_iff_toInt_le]
  omega
theorem z_le0 {x : Int32} (h : 0 ≤ x) : ¬ x < 0 := by
  rw [Int32.le_iff_toInt_le] at h
  rw [Int32.lt_iff_toInt_lt]
  omega
theorem x_lt40 {x : Int32} (h0 : ¬ x < 0) (h1 : x < 40) : vp_in x 40 := z_in (M := 40) rfl (by decide) h0 (z_ltn h1)
theorem x_lt30 {x : Int32} (h0 : ¬ x < 0) (h1 : ¬ 30 ≤ x) : vp_in x 30 := z_in (M := 30) rfl (by decide) h0 h1
theorem z_tdiv (a : Int) : (0 ≤ a → 40 * a.tdiv 40 ≤ a ∧ a < 40 * a.tdiv 40 + 40) ∧ (a < 0 → a ≤ 40 * a.tdiv 40 ∧ 40 * a.tdiv 40 < a + 40) := by
  constructor
  · intro h
    rw [Int.tdiv_eq_ediv_of_nonneg h]
    omega
  · intro h
    have e : a.tdiv 40 = -((-a) / 40) := by
      rw [← Int.tdiv_eq_ediv_of_nonneg (by omega : 0 ≤ -a), Int.neg_tdiv, Int.neg_neg]
    rw [e]
    omega
theorem x_rem40 {y : Int32} (h : 0 ≤ y - y / 40 * 40) : vp_in (y - y / 40 * 40) 40 := by
  have e40 : (40 : Int32).toInt = 40 := by decide
  have h0 : (0 : Int32).toInt = 0 := by decide
  have hq : (y / 40).toInt = y.toInt.tdiv 40 := by rw [Int32.toInt_div_of_ne_right _ _ (by decide), e40]
  have hlo := Int32.le_toInt y
  have hhi := Int32.toInt_lt y
  have hk := z_tdiv y.toInt
  rw [vp_in_iff]
  rw [Int32.le_iff_toInt_le, h0] at h
  have hm : (y / 40 * 40).toInt = y.toInt.tdiv 40 * 40 := by
    rw [Int32.toInt_mul, hq, e40]
    exact Int.bmod_eq_of_le (by omega) (by omega)
  have hs : (y - y / 40 * 40).toInt = y.toInt - y.toInt.tdiv 40 * 40 := by
    rw [Int32.toInt_sub, hm]
    exact Int.bmod_eq_of_le (by omega) (by omega)
  rw [hs] at h ⊢
  omega
theorem z_l0 {x y : Int64} (h : ¬ lg_cmp x y = 0) : ¬ x = y := by
  intro e
  subst e
  exact h (by simp [lg_cmp])
theorem z_i0 {x : Int32} (h : ¬ x = 0) : ¬ x.toInt64 = 0 := by
  intro e
  apply h
  have := congrArg Int64.toInt e
  rw [Int32.toInt_toInt64] at this
  exact Int32.toInt_inj.mp this

