/-! OWN ROWS: calls of the law on one half of its world -/
section ZF
variable {p : Program} {l : Launch} {e : Env} {R : Room} {s : State} {m : MethodId} {args : Array Value} {below : List Frame} {meth : Method} {c : Code} {H : Heap} {locs : List Loc} {cells slots : Nat} {Q : State → Prop}
variable {cc : ByteArray} {pc : Nat} {ls : Array Slot} {rest : List Value} {D : va_G} {tys : List (ClassId × FieldType)} {S : Type} {wf : S → va_W}
variable {y : MethodName} {ws Ts : List Cond} {rm : Room} {bytes : ByteArray} {nL maxL index n mc ms b : Nat} {ret : Option FieldType} {C own : String} {As st0 : List Value} {A0 : Nat → Prop} {H0 : Heap} {w w1 : va_W}
theorem z_fwd (hD : va_D A0 (w ++ w1)) (hS : va_S A0 H0 H locs) (hA : ∀ q, H0.size ≤ q → A0 q) : ∀ q, va_A w1 H.size q → A0 q := by
  rintro q (⟨k, e, h⟩ | h)
  · exact (zD_r hD).2 k _ h
  · exact hA q (Nat.le_trans hS.1 h)
theorem z_fci {Qr : Int32 → S → Prop} (X : CallFix p m c cc nL s args Ts own) (hM : Met l y ws rm (zP D tys (.ref b :: As) w1 H.size) (va_Qi Qr (zB D tys wf (va_A w1 H.size)) (va_A w1 H.size)) mc ms (va_A w1 H.size)) (cw : CallW R s args own C index y bytes maxL ret ws rm mc ms n)
    (hr : ∃ cell : Cell, H[b]? = some cell ∧ cell.vm.isStatics = false ∧ s.vm.findClass C = some cell.cls) (hK : va_K D vwCl tys s) (hP : va_P D vwCl (w ++ w1) H) (hD : va_D A0 (w ++ w1)) (hS : va_S A0 H0 H locs) (hA : ∀ q, H0.size ≤ q → A0 q)
    (hn : As.length = n) (hsz : ls.size = nL) (hst : st0 = As.reverse ++ .ref b :: rest) (hW : (rest.map fun v => v.category).sum ≤ 8) (hdg : decode cc pc = .ok (.invokevirtual index, 3)) (hf : cells + mc ≤ R.cells ∧ slots + ms ≤ R.slots)
    (kk : ∀ (r : Int32) (u : S) (H1 : Heap) (locs1 : List Loc), Qr r u → va_P D vwCl (w ++ wf u) H1 → va_D A0 (w ++ wf u) → va_S A0 H0 H1 locs1 → W p l e R s m args below meth c H1 locs1 (cells + mc) (slots + ms) Q (F0 m (pc + 3) ls (.int r :: rest))) :
    W p l e R s m args below meth c H locs cells slots Q (F0 m pc ls st0) := by
  have hFc := z_fwd hD hS hA
  have hp : PreV s H C b (zP D tys (.ref b :: As) w1 H.size) As := ⟨z_blind, hr, fun U hU hW => ⟨rfl, by rw [hU], by rw [hU]; exact zP_r hP, va_K.moved hW.alike hK, (zD_r hD).weaken (fun _ _ _ _ => trivial)⟩⟩
  refine va_calli (va_runV (As := As) (rest := rest) X hM cw hp rfl hn hsz hst (lv_room hW) hdg hf) hS (fun q _ h => hFc q h) hFc (fun r u t H1 locs1 ht hvm hw hB hz1 hk1 hS1 => ?_)
  obtain ⟨hP1, hK1, hD1⟩ := hB
  rw [ht] at hP1
  obtain ⟨hP2, hD2⟩ := z_fr hP hD hk1 hFc hP1 hD1
  exact kk r u H1 locs1 hw hP2 hD2 hS1
theorem z_fcl {Qr : Int64 → S → Prop} (X : CallFix p m c cc nL s args Ts own) (hM : Met l y ws rm (zP D tys (.ref b :: As) w1 H.size) (va_Ql Qr (zB D tys wf (va_A w1 H.size)) (va_A w1 H.size)) mc ms (va_A w1 H.size)) (cw : CallW R s args own C index y bytes maxL ret ws rm mc ms n)
    (hr : ∃ cell : Cell, H[b]? = some cell ∧ cell.vm.isStatics = false ∧ s.vm.findClass C = some cell.cls) (hK : va_K D vwCl tys s) (hP : va_P D vwCl (w ++ w1) H) (hD : va_D A0 (w ++ w1)) (hS : va_S A0 H0 H locs) (hA : ∀ q, H0.size ≤ q → A0 q)
    (hn : As.length = n) (hsz : ls.size = nL) (hst : st0 = As.reverse ++ .ref b :: rest) (hW : (rest.map fun v => v.category).sum ≤ 8) (hdg : decode cc pc = .ok (.invokevirtual index, 3)) (hf : cells + mc ≤ R.cells ∧ slots + ms ≤ R.slots)
    (kk : ∀ (r : Int64) (u : S) (H1 : Heap) (locs1 : List Loc), Qr r u → va_P D vwCl (w ++ wf u) H1 → va_D A0 (w ++ wf u) → va_S A0 H0 H1 locs1 → W p l e R s m args below meth c H1 locs1 (cells + mc) (slots + ms) Q (F0 m (pc + 3) ls (.long r :: rest))) :
    W p l e R s m args below meth c H locs cells slots Q (F0 m pc ls st0) := by
  have hFc := z_fwd hD hS hA
  have hp : PreV s H C b (zP D tys (.ref b :: As) w1 H.size) As := ⟨z_blind, hr, fun U hU hW => ⟨rfl, by rw [hU], by rw [hU]; exact zP_r hP, va_K.moved hW.alike hK, (zD_r hD).weaken (fun _ _ _ _ => trivial)⟩⟩
  refine va_calll (va_runV (As := As) (rest := rest) X hM cw hp rfl hn hsz hst (lv_room hW) hdg hf) hS (fun q _ h => hFc q h) hFc (fun r u t H1 locs1 ht hvm hw hB hz1 hk1 hS1 => ?_)
  obtain ⟨hP1, hK1, hD1⟩ := hB
  rw [ht] at hP1
  obtain ⟨hP2, hD2⟩ := z_fr hP hD hk1 hFc hP1 hD1
  exact kk r u H1 locs1 hw hP2 hD2 hS1
theorem z_fcv {E : State → Prop} {Ty : S → List (ClassId × FieldType)} {Qr : S → Prop} (X : CallFix p m c cc nL s args Ts own) (hM : Met l y ws rm (zPE E D (.ref b :: As) w1 H.size) (va_Qv Qr (zBo D Ty wf (va_A w1 H.size)) (va_A w1 H.size)) mc ms (va_A w1 H.size)) (cw : CallB R s args own index y bytes maxL none ws rm mc ms n ∧ y.name = "<init>" ∧ (Cond.instanceMethod y).before args s = true)
    (hE : ∀ U V : State, U.vm.Alike V.vm → E U → E V) (hE0 : E s) (hK : va_K D vwCl [] s) (hP : va_P D vwCl (w ++ w1) H) (hD : va_D A0 (w ++ w1)) (hS : va_S A0 H0 H locs) (hA : ∀ q, H0.size ≤ q → A0 q)
    (hn : As.length = n) (hsz : ls.size = nL) (hst : st0 = As.reverse ++ .ref b :: rest) (hW : (rest.map fun v => v.category).sum ≤ 8) (hdg : decode cc pc = .ok (.invokespecial index, 3)) (hf : cells + mc ≤ R.cells ∧ slots + ms ≤ R.slots)
    (kk : ∀ (u : S) (H1 : Heap) (locs1 : List Loc), Qr u → va_K D vwCl (Ty u) s → va_P D vwCl (w ++ wf u) H1 → va_D A0 (w ++ wf u) → va_S A0 H0 H1 locs1 → W p l e R s m args below meth c H1 locs1 (cells + mc) (slots + ms) Q (F0 m (pc + 3) ls rest)) :
    W p l e R s m args below meth c H locs cells slots Q (F0 m pc ls st0) := by
  have hFc := z_fwd hD hS hA
  have hp : PreS s H (zPE E D (.ref b :: As) w1 H.size) (.ref b :: As) := ⟨fun a U g mk q => by
      obtain ⟨q0, ⟨q1, qP, qK, qD⟩, q2⟩ := q
      exact ⟨q0, ⟨q1, qP, va_K.moved (u := U) (U := U.calling g mk a) (Vm.Alike.refl U.vm) qK, qD⟩, hE U (U.calling g mk a) (Vm.Alike.refl U.vm) q2⟩,
    fun U hU hW => ⟨rfl, ⟨by rw [hU], by rw [hU]; exact zP_r hP, va_K.moved hW.alike hK, (zD_r hD).weaken (fun _ _ _ _ => trivial)⟩, hE s U hW.alike hE0⟩⟩
  refine va_callv (va_runI (As := As) (rest := rest) X hM cw hp rfl hn hsz hst (lv_room hW) hdg hf) hS (fun q _ h => hFc q h) hFc (fun u t H1 locs1 ht hvm hw hB hz1 hk1 hS1 => ?_)
  obtain ⟨hP1, hK1, hD1⟩ := hB
  rw [ht] at hP1
  obtain ⟨hP2, hD2⟩ := z_fr hP hD hk1 hFc hP1 hD1
  exact kk u H1 locs1 hw (va_K.moved hvm.symm hK1) hP2 hD2 hS1
end ZF
/-! the script's ints and longs -/
def zN (xs : Nat → Int32) (i j : Int32) : Int32 := xs (i + j).toNatClampNeg
def zHi (a : Int32) : Int64 := a.toInt64 <<< ((32 : Int32).toInt64 &&& 63)
def zJ (a b : Int32) : Int64 := zHi a ||| (b.toInt64 &&& 4294967295)
section ZL
variable {p : Program} {l : Launch} {e : Env} {R : Room} {s : State} {m : MethodId} {args : Array Value} {below : List Frame} {meth : Method} {c : Code} {H : Heap} {locs : List Loc} {cells slots : Nat} {Q : State → Prop}
variable {cc : ByteArray} {pc : Nat} {ls : Array Slot} {rest : List Value} {A : Nat → Prop} {H0 : Heap}
theorem zl_rd (hx : p.tables.exec = Jvm.exec) (hb : c.code = cc) {b L : Nat} {xs : Nat → Int32} (hX : va_X b L xs s H0) (hbl : b < H0.size) (hbA : ¬ A b) (hS : va_S A H0 H locs) {i j : Int32} {n : Int} (hin : vp_in (i + j) L) (h0 : ls[0]? = some (.val (.ref b))) (h3 : ls[3]? = some (.val (.int i)))
    (d0 : decode cc pc = .ok (.aload_n 0, 1)) (d1 : decode cc (pc + 1) = .ok (.iload_n 3, 1)) (d2 : decode cc (pc + 2) = .ok (.iconst n, 1)) (hj : Int32.ofInt n = j) (d3 : decode cc (pc + 3) = .ok (.iadd, 1)) (d4 : decode cc (pc + 4) = .ok (.iaload, 1))
    (k : W p l e R s m args below meth c H locs cells slots Q (F0 m (pc + 5) ls (.int (zN xs i j) :: rest))) : W p l e R s m args below meth c H locs cells slots Q (F0 m pc ls rest) := by
  refine lv_aload_n hx hb d0 rfl h0 ?_
  refine lv_iload_n hx hb d1 rfl h3 ?_
  refine lv_iconst (v := j) hx hb d2 hj ?_
  refine lv_iadd hx hb d3 ?_
  exact va_sld hx hb hX hbl hbA hS hin d4 k
theorem zl_rd6 (hx : p.tables.exec = Jvm.exec) (hb : c.code = cc) {b L : Nat} {xs : Nat → Int32} (hX : va_X b L xs s H0) (hbl : b < H0.size) (hbA : ¬ A b) (hS : va_S A H0 H locs) {i j : Int32} {n : Int} (hin : vp_in (i + j) L) (h0 : ls[0]? = some (.val (.ref b))) (h3 : ls[3]? = some (.val (.int i)))
    (d0 : decode cc pc = .ok (.aload_n 0, 1)) (d1 : decode cc (pc + 1) = .ok (.iload_n 3, 1)) (d2 : decode cc (pc + 2) = .ok (.bipush n, 2)) (hj : (Int8.ofInt n).toInt32 = j) (d3 : decode cc (pc + 4) = .ok (.iadd, 1)) (d4 : decode cc (pc + 5) = .ok (.iaload, 1))
    (k : W p l e R s m args below meth c H locs cells slots Q (F0 m (pc + 6) ls (.int (zN xs i j) :: rest))) : W p l e R s m args below meth c H locs cells slots Q (F0 m pc ls rest) := by
  refine lv_aload_n hx hb d0 rfl h0 ?_
  refine lv_iload_n hx hb d1 rfl h3 ?_
  refine lv_bipush (v := j) hx hb d2 hj ?_
  refine lv_iadd hx hb d3 ?_
  exact va_sld hx hb hX hbl hbA hS hin d4 k
theorem zl_hi (hx : p.tables.exec = Jvm.exec) (hb : c.code = cc) {a : Int32} (d0 : decode cc pc = .ok (.i2l, 1)) (d1 : decode cc (pc + 1) = .ok (.bipush 32, 2)) (d2 : decode cc (pc + 3) = .ok (.lshl, 1))
    (k : W p l e R s m args below meth c H locs cells slots Q (F0 m (pc + 4) ls (.long (zHi a) :: rest))) : W p l e R s m args below meth c H locs cells slots Q (F0 m pc ls (.int a :: rest)) := by
  refine lv_i2l (v := a.toInt64) hx hb d0 rfl ?_
  refine lv_bipush (v := 32) hx hb d1 (by decide) ?_
  exact lv_lshl (v := zHi a) hx hb d2 rfl k
theorem zl_lo (hx : p.tables.exec = Jvm.exec) (hb : c.code = cc) {own : String} {index : Nat} {a b : Int32} (hown : s.vm.findClass own = some m.cls) (hconst : (Jvm.Cond.constantLong own index 4294967295).before args s = true) (d0 : decode cc pc = .ok (.i2l, 1)) (d1 : decode cc (pc + 1) = .ok (.ldc2_w index, 3)) (d2 : decode cc (pc + 4) = .ok (.land, 1)) (d3 : decode cc (pc + 5) = .ok (.lor, 1))
    (k : W p l e R s m args below meth c H locs cells slots Q (F0 m (pc + 6) ls (.long (zJ a b) :: rest))) : W p l e R s m args below meth c H locs cells slots Q (F0 m pc ls (.int b :: .long (zHi a) :: rest)) := by
  refine lv_i2l (v := b.toInt64) hx hb d0 rfl ?_
  refine lv_ldc2 (v := 4294967295) hx hb hown hconst d1 ?_
  refine lv_land hx hb d2 ?_
  exact lv_lor hx hb d3 k
theorem zl_endi (hx : p.tables.exec = Jvm.exec) (hb : c.code = cc) {x y : Int32} {off : Int} {tgt : Nat} (hdg : decode cc pc = .ok (.if_icmp .eq off, 3)) (ht : (pc : Int) + off = (tgt : Int)) (h : x = y)
    (k : W p l e R s m args below meth c H locs cells slots Q (F0 m tgt ls rest)) : W p l e R s m args below meth c H locs cells slots Q (F0 m pc ls (.int y :: .int x :: rest)) :=
  lv_icmp_eq hx hb hdg ht (fun _ => k) (fun q => absurd h q)
theorem zl_endl (hx : p.tables.exec = Jvm.exec) (hb : c.code = cc) {x y : Int64} {off : Int} {tgt : Nat} (d0 : decode cc pc = .ok (.lcmp, 1)) (hdg : decode cc (pc + 1) = .ok (.ifCond .eq off, 3)) (ht : ((pc + 1 : Nat) : Int) + off = (tgt : Int)) (h : x = y)
    (k : W p l e R s m args below meth c H locs cells slots Q (F0 m tgt ls rest)) : W p l e R s m args below meth c H locs cells slots Q (F0 m pc ls (.long y :: .long x :: rest)) := by
  subst h
  refine W.lcmp hx hb d0 ?_
  exact lv_if_eq hx hb hdg ht (fun _ => k) (fun q => absurd (by simp [lg_cmp]) q)
end ZL
/-- the law stands at pc, between two calls: the class's state and the reference's agree -/
def zAt (p : Program) (l : Launch) (e : Env) (s : State) (m : MethodId) (below : List Frame) (meth : Method) (c : Code) (D : va_G) (b : Nat) (i : Int32) (pc cells slots : Nat) (B : Int) (F : Nat) : Prop :=
  ∀ (O : Nat → Nat) (K : Nat → ClassId) (ad : Nat → Nat) (O' : Nat → Nat) (K' : Nat → ClassId) (σ : SX) (μ : SM) (H : Heap) (locs : List Loc) (ls : Array Slot), Rel B F σ μ → va_K D vwCl (xT K) s → va_K D vwCl (mT K') s → va_P D vwCl (xW O K ad σ ++ mW O' K' μ) H → va_D (fun q : Nat => s.heap.size ≤ q) (xW O K ad σ ++ mW O' K' μ) → va_S (fun q : Nat => s.heap.size ≤ q) s.heap H locs → lv_has ls 4 [(0, .ref b), (1, .ref (O 0)), (2, .ref (O' 0)), (3, .int i)] → W p l e room_1 s m #[Value.ref b] below meth c H locs cells slots (lw_Z below #[Value.ref b] s) (F0 m pc ls [])
theorem Rel.okk {B : Int} {F : Nat} {σ : SX} {μ : SM} (h : Rel B F σ μ) : xok σ := (Rel_c.mp h.1).2.2.2.1.2
