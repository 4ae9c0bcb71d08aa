/-! OWN ROWS: contracts over a whole world, their starts, ends and calls -/
def zP (D : va_G) (tys : List (ClassId × FieldType)) (av : List Value) (w : va_W) (sz : Nat) : Array Value → State → Prop :=
  va_Pc av (fun U => U.heap.size = sz ∧ va_P D vwCl w U.heap ∧ va_K D vwCl tys U ∧ va_D (fun _ => True) w)
def zB {S : Type} (D : va_G) (tys : List (ClassId × FieldType)) (wf : S → va_W) (A : Nat → Prop) : S → State → Prop :=
  fun u t => va_P D vwCl (wf u) t.heap ∧ va_K D vwCl tys t ∧ va_D A (wf u)
theorem z_blind {D : va_G} {tys : List (ClassId × FieldType)} {av : List Value} {w : va_W} {sz : Nat} : FrameBlind (zP D tys av w sz) := fun a U g mk q => by
  obtain ⟨q0, q1, qP, qK, qD⟩ := q
  exact ⟨q0, q1, qP, va_K.moved (u := U) (U := U.calling g mk a) (Vm.Alike.refl U.vm) qK, qD⟩
def cI {S : Type} (l : Launch) (y : MethodName) (ws : List Cond) (rm : Room) (mc ms : Nat) (D : va_G) (tys : List (ClassId × FieldType)) (wf : S → va_W) (σ : S) (av : List Value) (F : Int32 × S) : Prop :=
  ∀ sz : Nat, Met l y ws rm (zP D tys av (wf σ) sz) (va_Qi (fun r u => r = F.1 ∧ u = F.2) (zB D tys wf (va_A (wf σ) sz)) (va_A (wf σ) sz)) mc ms (va_A (wf σ) sz)
def cL {S : Type} (l : Launch) (y : MethodName) (ws : List Cond) (rm : Room) (mc ms : Nat) (D : va_G) (tys : List (ClassId × FieldType)) (wf : S → va_W) (σ : S) (av : List Value) (F : Int64 × S) : Prop :=
  ∀ sz : Nat, Met l y ws rm (zP D tys av (wf σ) sz) (va_Ql (fun r u => r = F.1 ∧ u = F.2) (zB D tys wf (va_A (wf σ) sz)) (va_A (wf σ) sz)) mc ms (va_A (wf σ) sz)
def cV {S : Type} (l : Launch) (y : MethodName) (ws : List Cond) (rm : Room) (mc ms : Nat) (D : va_G) (tys : List (ClassId × FieldType)) (wf : S → va_W) (σ : S) (av : List Value) (F : S) : Prop :=
  ∀ sz : Nat, Met l y ws rm (zP D tys av (wf σ) sz) (va_Qv (fun u => u = F) (zB D tys wf (va_A (wf σ) sz)) (va_A (wf σ) sz)) mc ms (va_A (wf σ) sz)
def cQ {S : Type} (ad : Nat → Nat) (l : Launch) (y : MethodName) (ws : List Cond) (rm : Room) (mc ms : Nat) (D : va_G) (tys : List (ClassId × FieldType)) (wf : S → va_W) (σ : S) (av : List Value) (F : Option Nat × S) : Prop :=
  ∀ sz : Nat, Met l y ws rm (zP D tys av (wf σ) sz) (va_Qq (fun r u => r = F.1.map ad ∧ u = F.2) (zB D tys wf (va_A (wf σ) sz)) (va_A (wf σ) sz)) mc ms (va_A (wf σ) sz)
def cS (l : Launch) (y : MethodName) (ws : List Cond) (rm : Room) (av : List Value) (r : Int32) : Prop :=
  Met l y ws rm (va_Pc av (fun _ => True)) (vp_Si (fun x => x = r)) 0 0 (fun _ => False)
/-- what a walk has at its start -/
def zX (p : Program) (s : State) (m : MethodId) (args : Array Value) (meth : Method) (c : Code) (cc : ByteArray) (maxL : Nat) (ret : Option FieldType) (ws : List Cond) (y : MethodName) : Prop :=
  p.tables.exec = Jvm.exec ∧ c.code = cc ∧ meth.sig.returnType = ret ∧ c.maxLocals = maxL ∧ (∀ x ∈ ws, x.before args s = true) ∧ s.vm.findClass y.cls = some m.cls ∧ meth.locks = false ∧ meth.name = y.name
theorem z_start {l : Launch} {y : MethodName} {ws ws' : List Cond} {rm : Room} {cc : ByteArray} {maxL : Nat} {ret : Option FieldType} {D : va_G} {tys : List (ClassId × FieldType)} {w : va_W} {av : List Value} {mc ms : Nat} {Qc : (Nat → Prop) → Array Value → State → Outcome → State → Prop} (sz : Nat)
    (hy : plainName y.cls = true) (hw : ws = Cond.code y cc maxL ret :: ws') (hn : (lg_sl av).length ≤ maxL)
    (body : ∀ (p : Program) (e : Env) (s : State) (m : MethodId) (below : List Frame) (meth : Method) (c : Code) (A : Nat → Prop), zX p s m av.toArray meth c cc maxL ret ws y → (∀ q : Nat, s.heap.size ≤ q → A q) → va_K D vwCl tys s → va_P D vwCl w s.heap → va_D A w → va_S A s.heap s.heap [] →
      ∀ ls : Array Slot, lv_has ls maxL (lv_args 0 av) → W p l e rm s m av.toArray below meth c s.heap [] 0 0 (MQ below (Qc A) av.toArray s mc ms A) (F0 m 0 ls [])) :
    Met l y ws rm (zP D tys av w sz) (Qc (va_A w sz)) mc ms (va_A w sz) := by
  refine Met.ofW (cc := cc) (maxL := maxL) (ret := ret) hy hw ?_
  intro p e s m args below meth c s₁ B hml hv
  obtain ⟨rfl, hsz, hP, hK, hD0⟩ := hv
  subst hsz
  have hl := lv_entry av (n := maxL) hn
  rw [lg_entry_eq]
  exact body p e s m below meth c (va_A w s.heap.size) ⟨B.exec, B.bytes, B.returns, hml, atoms_spec (ws := ws) B.pre, findClass_of_methodNamed B.named, B.notSynchronized, (name_of_methodNamed B.named B.method).1⟩ (fun q h => Or.inr h) hK hP (hD0.self (sz := s.heap.size)) va_S.rf _ hl
theorem z_startS {l : Launch} {y : MethodName} {ws ws' : List Cond} {rm : Room} {cc : ByteArray} {maxL : Nat} {ret : Option FieldType} {av : List Value} {r : Int32}
    (hy : plainName y.cls = true) (hw : ws = Cond.code y cc maxL ret :: ws') (hn : (lg_sl av).length ≤ maxL)
    (body : ∀ (p : Program) (e : Env) (s : State) (m : MethodId) (below : List Frame) (meth : Method) (c : Code), zX p s m av.toArray meth c cc maxL ret ws y →
      ∀ ls : Array Slot, lv_has ls maxL (lv_args 0 av) → W p l e rm s m av.toArray below meth c s.heap [] 0 0 (MQ below (vp_Si (fun x => x = r)) av.toArray s 0 0 (fun _ => False)) (F0 m 0 ls [])) :
    cS l y ws rm av r := by
  refine Met.ofW (cc := cc) (maxL := maxL) (ret := ret) hy hw ?_
  intro p e s m args below meth c s₁ B hml hv
  obtain ⟨rfl, -⟩ := hv
  have hl := lv_entry av (n := maxL) hn
  rw [lg_entry_eq]
  exact body p e s m below meth c ⟨B.exec, B.bytes, B.returns, hml, atoms_spec (ws := ws) B.pre, findClass_of_methodNamed B.named, B.notSynchronized, (name_of_methodNamed B.named B.method).1⟩ _ hl
section ZR
variable {p : Program} {l : Launch} {e : Env} {R : Room} {s : State} {m : MethodId} {args : Array Value} {below : List Frame} {meth : Method} {c : Code} {H : Heap} {locs : List Loc} {cells slots : Nat} {Q : State → Prop}
variable {cc : ByteArray} {pc : Nat} {ls : Array Slot} {rest : List Value} {D : va_G} {A : Nat → Prop} {tys : List (ClassId × FieldType)} {S : Type} {wf : S → va_W}
theorem z_retS {v r : Int32} {ty : FieldType} (hx : p.tables.exec = Jvm.exec) (hb : c.code = cc) (hr : meth.sig.returnType = some ty) (hlocks : meth.locks = false) (hn : narrow ty (.int v) = .int v) (e1 : v = r) (hdg : decode cc pc = .ok (.ireturn, 1)) :
    W p l e R s m args below meth c s.heap [] 0 0 (MQ below (vp_Si (fun x => x = r)) args s 0 0 (fun _ => False)) (F0 m pc ls [.int v]) :=
  W.zret hx hb hr hn (fun t ht hW => ⟨v, rfl, e1, ht⟩) (fun q h => by cases h) hdg hlocks
theorem z_reti {v : Int32} {σ : S} {F : Int32 × S} {ty : FieldType} (hx : p.tables.exec = Jvm.exec) (hb : c.code = cc) (hr : meth.sig.returnType = some ty) (hlocks : meth.locks = false) (hn : narrow ty (.int v) = .int v) (hK : va_K D vwCl tys s) (hP : va_P D vwCl (wf σ) H) (hD : va_D A (wf σ)) (hS : va_S A s.heap H locs) (hF : F = (v, σ)) (hdg : decode cc pc = .ok (.ireturn, 1)) :
    W p l e R s m args below meth c H locs cells slots (MQ below (va_Qi (fun r u => r = F.1 ∧ u = F.2) (zB D tys wf A) A) args s cells slots A) (F0 m pc ls [.int v]) := by
  subst hF
  exact W.zret hx hb hr hn (fun t ht hW => ⟨⟨v, σ, rfl, ⟨rfl, rfl⟩, by rw [ht]; exact hP, va_K.moved hW.alike hK, hD⟩, hS.F ht⟩) hS.2.2 hdg hlocks
theorem z_retl {v : Int64} {σ : S} {F : Int64 × S} (hx : p.tables.exec = Jvm.exec) (hb : c.code = cc) (hr : meth.sig.returnType = some .long) (hlocks : meth.locks = false) (hK : va_K D vwCl tys s) (hP : va_P D vwCl (wf σ) H) (hD : va_D A (wf σ)) (hS : va_S A s.heap H locs) (hF : F = (v, σ)) (hdg : decode cc pc = .ok (.lreturn, 1)) :
    W p l e R s m args below meth c H locs cells slots (MQ below (va_Ql (fun r u => r = F.1 ∧ u = F.2) (zB D tys wf A) A) args s cells slots A) (F0 m pc ls [.long v]) := by
  subst hF
  exact W.lret hx hb hr (fun t ht hW => ⟨⟨v, σ, rfl, ⟨rfl, rfl⟩, by rw [ht]; exact hP, va_K.moved hW.alike hK, hD⟩, hS.F ht⟩) hS.2.2 hdg hlocks
theorem z_retv {σ F : S} (hx : p.tables.exec = Jvm.exec) (hb : c.code = cc) (hr : meth.sig.returnType = none) (hlocks : meth.locks = false) (hK : va_K D vwCl tys s) (hP : va_P D vwCl (wf σ) H) (hD : va_D A (wf σ)) (hS : va_S A s.heap H locs) (hF : F = σ) (hdg : decode cc pc = .ok (.return_, 1)) :
    W p l e R s m args below meth c H locs cells slots (MQ below (va_Qv (fun u => u = F) (zB D tys wf A) A) args s cells slots A) (F0 m pc ls []) := by
  subst hF
  exact W.vret hx hb hr (fun t ht hW => ⟨⟨F, rfl, rfl, by rw [ht]; exact hP, va_K.moved hW.alike hK, hD⟩, hS.F ht⟩) hS.2.2 hdg hlocks
theorem z_retq {ad : Nat → Nat} {r : Option Nat} {σ : S} {F : Option Nat × S} {C : String} (hx : p.tables.exec = Jvm.exec) (hb : c.code = cc) (hr : meth.sig.returnType = some (.object C)) (hlocks : meth.locks = false) (hK : va_K D vwCl tys s) (hP : va_P D vwCl (wf σ) H) (hD : va_D A (wf σ)) (hS : va_S A s.heap H locs) (hF : F = (r, σ)) (hdg : decode cc pc = .ok (.areturn, 1)) :
    W p l e R s m args below meth c H locs cells slots (MQ below (va_Qq (fun r u => r = F.1.map ad ∧ u = F.2) (zB D tys wf A) A) args s cells slots A) (F0 m pc ls [va_re ad r]) := by
  subst hF
  exact W.aret hx hb hr (Or.inl ⟨C, rfl⟩) (va_rf_or (r.map ad)) (fun t ht hW => ⟨⟨r.map ad, σ, rfl, ⟨rfl, rfl⟩, by rw [ht]; exact hP, va_K.moved hW.alike hK, hD⟩, hS.F ht⟩) hS.2.2 hdg hlocks
/-! calls -/
variable {y : MethodName} {ws Ts : List Cond} {rm : Room} {bytes : ByteArray} {nL maxL index n mc ms b : Nat} {ret : Option FieldType} {C own : String} {As st0 : List Value} {σ : S} {A0 : Nat → Prop} {H0 : Heap}
theorem z_fc (hD : va_D A0 (wf σ)) (hS : va_S A0 H0 H locs) (hA : ∀ q, H0.size ≤ q → A0 q) : ∀ q, va_A (wf σ) H.size q → A0 q := by
  rintro q (⟨k, e, h⟩ | h)
  · exact hD.2 k _ h
  · exact hA q (Nat.le_trans hS.1 h)
theorem z_pre (hr : ∃ cell : Cell, H[b]? = some cell ∧ cell.vm.isStatics = false ∧ s.vm.findClass C = some cell.cls) (hK : va_K D vwCl tys s) (hP : va_P D vwCl (wf σ) H) (hD : va_D A0 (wf σ)) : PreV s H C b (zP D tys (.ref b :: As) (wf σ) H.size) As :=
  ⟨z_blind, hr, fun U hU hW => ⟨rfl, by rw [hU], by rw [hU]; exact hP, va_K.moved hW.alike hK, hD.weaken (fun _ _ _ _ => trivial)⟩⟩
theorem z_calli {F : Int32 × S} (X : CallFix p m c cc nL s args Ts own) (hM : cI l y ws rm mc ms D tys wf σ (.ref b :: As) F) (cw : CallW R s args own C index y bytes maxL ret ws rm mc ms n)
    (hr : ∃ cell : Cell, H[b]? = some cell ∧ cell.vm.isStatics = false ∧ s.vm.findClass C = some cell.cls) (hK : va_K D vwCl tys s) (hP : va_P D vwCl (wf σ) H) (hD : va_D A0 (wf σ)) (hS : va_S A0 H0 H locs) (hA : ∀ q, H0.size ≤ q → A0 q)
    (hn : As.length = n) (hsz : ls.size = nL) (hst : st0 = As.reverse ++ .ref b :: rest) (hW : (rest.map fun v => v.category).sum ≤ 8) (hdg : decode cc pc = .ok (.invokevirtual index, 3)) (hf : cells + mc ≤ R.cells ∧ slots + ms ≤ R.slots)
    (kk : ∀ (H1 : Heap) (locs1 : List Loc), va_P D vwCl (wf F.2) H1 → va_D A0 (wf F.2) → va_S A0 H0 H1 locs1 → W p l e R s m args below meth c H1 locs1 (cells + mc) (slots + ms) Q (F0 m (pc + 3) ls (.int F.1 :: rest))) :
    W p l e R s m args below meth c H locs cells slots Q (F0 m pc ls st0) := by
  have hFc := z_fc hD hS hA
  refine va_calli (va_runV (As := As) (rest := rest) X (hM H.size) cw (z_pre hr hK hP hD) rfl hn hsz hst (lv_room hW) hdg hf) hS (fun q _ h => hFc q h) hFc (fun r u t H1 locs1 ht hvm hw hB hz1 hk1 hS1 => ?_)
  obtain ⟨rfl, rfl⟩ := hw
  obtain ⟨hP1, hK1, hD1⟩ := hB
  rw [ht] at hP1
  exact kk H1 locs1 hP1 (hD1.weaken (fun k q _ h => hFc _ h)) hS1
theorem z_calll {F : Int64 × S} (X : CallFix p m c cc nL s args Ts own) (hM : cL l y ws rm mc ms D tys wf σ (.ref b :: As) F) (cw : CallW R s args own C index y bytes maxL ret ws rm mc ms n)
    (hr : ∃ cell : Cell, H[b]? = some cell ∧ cell.vm.isStatics = false ∧ s.vm.findClass C = some cell.cls) (hK : va_K D vwCl tys s) (hP : va_P D vwCl (wf σ) H) (hD : va_D A0 (wf σ)) (hS : va_S A0 H0 H locs) (hA : ∀ q, H0.size ≤ q → A0 q)
    (hn : As.length = n) (hsz : ls.size = nL) (hst : st0 = As.reverse ++ .ref b :: rest) (hW : (rest.map fun v => v.category).sum ≤ 8) (hdg : decode cc pc = .ok (.invokevirtual index, 3)) (hf : cells + mc ≤ R.cells ∧ slots + ms ≤ R.slots)
    (kk : ∀ (H1 : Heap) (locs1 : List Loc), va_P D vwCl (wf F.2) H1 → va_D A0 (wf F.2) → va_S A0 H0 H1 locs1 → W p l e R s m args below meth c H1 locs1 (cells + mc) (slots + ms) Q (F0 m (pc + 3) ls (.long F.1 :: rest))) :
    W p l e R s m args below meth c H locs cells slots Q (F0 m pc ls st0) := by
  have hFc := z_fc hD hS hA
  refine va_calll (va_runV (As := As) (rest := rest) X (hM H.size) cw (z_pre hr hK hP hD) rfl hn hsz hst (lv_room hW) hdg hf) hS (fun q _ h => hFc q h) hFc (fun r u t H1 locs1 ht hvm hw hB hz1 hk1 hS1 => ?_)
  obtain ⟨rfl, rfl⟩ := hw
  obtain ⟨hP1, hK1, hD1⟩ := hB
  rw [ht] at hP1
  exact kk H1 locs1 hP1 (hD1.weaken (fun k q _ h => hFc _ h)) hS1
theorem z_callv {F : S} (X : CallFix p m c cc nL s args Ts own) (hM : cV l y ws rm mc ms D tys wf σ (.ref b :: As) F) (cw : CallW R s args own C index y bytes maxL ret ws rm mc ms n)
    (hr : ∃ cell : Cell, H[b]? = some cell ∧ cell.vm.isStatics = false ∧ s.vm.findClass C = some cell.cls) (hK : va_K D vwCl tys s) (hP : va_P D vwCl (wf σ) H) (hD : va_D A0 (wf σ)) (hS : va_S A0 H0 H locs) (hA : ∀ q, H0.size ≤ q → A0 q)
    (hn : As.length = n) (hsz : ls.size = nL) (hst : st0 = As.reverse ++ .ref b :: rest) (hW : (rest.map fun v => v.category).sum ≤ 8) (hdg : decode cc pc = .ok (.invokevirtual index, 3)) (hf : cells + mc ≤ R.cells ∧ slots + ms ≤ R.slots)
    (kk : ∀ (H1 : Heap) (locs1 : List Loc), va_P D vwCl (wf F) H1 → va_D A0 (wf F) → va_S A0 H0 H1 locs1 → W p l e R s m args below meth c H1 locs1 (cells + mc) (slots + ms) Q (F0 m (pc + 3) ls rest)) :
    W p l e R s m args below meth c H locs cells slots Q (F0 m pc ls st0) := by
  have hFc := z_fc hD hS hA
  refine va_callv (va_runV (As := As) (rest := rest) X (hM H.size) cw (z_pre hr hK hP hD) rfl hn hsz hst (lv_room hW) hdg hf) hS (fun q _ h => hFc q h) hFc (fun u t H1 locs1 ht hvm hw hB hz1 hk1 hS1 => ?_)
  subst hw
  obtain ⟨hP1, hK1, hD1⟩ := hB
  rw [ht] at hP1
  exact kk H1 locs1 hP1 (hD1.weaken (fun k q _ h => hFc _ h)) hS1
theorem z_callq {ad : Nat → Nat} {F : Option Nat × S} (X : CallFix p m c cc nL s args Ts own) (hM : cQ ad l y ws rm mc ms D tys wf σ (.ref b :: As) F) (cw : CallW R s args own C index y bytes maxL ret ws rm mc ms n)
    (hr : ∃ cell : Cell, H[b]? = some cell ∧ cell.vm.isStatics = false ∧ s.vm.findClass C = some cell.cls) (hK : va_K D vwCl tys s) (hP : va_P D vwCl (wf σ) H) (hD : va_D A0 (wf σ)) (hS : va_S A0 H0 H locs) (hA : ∀ q, H0.size ≤ q → A0 q)
    (hn : As.length = n) (hsz : ls.size = nL) (hst : st0 = As.reverse ++ .ref b :: rest) (hW : (rest.map fun v => v.category).sum ≤ 8) (hdg : decode cc pc = .ok (.invokevirtual index, 3)) (hf : cells + mc ≤ R.cells ∧ slots + ms ≤ R.slots)
    (kk : ∀ (H1 : Heap) (locs1 : List Loc), va_P D vwCl (wf F.2) H1 → va_D A0 (wf F.2) → va_S A0 H0 H1 locs1 → W p l e R s m args below meth c H1 locs1 (cells + mc) (slots + ms) Q (F0 m (pc + 3) ls (va_re ad F.1 :: rest))) :
    W p l e R s m args below meth c H locs cells slots Q (F0 m pc ls st0) := by
  have hFc := z_fc hD hS hA
  refine va_callq (va_runV (As := As) (rest := rest) X (hM H.size) cw (z_pre hr hK hP hD) rfl hn hsz hst (lv_room hW) hdg hf) hS (fun q _ h => hFc q h) hFc (fun r u t H1 locs1 ht hvm hw hB hz1 hk1 hS1 => ?_)
  obtain ⟨rfl, rfl⟩ := hw
  obtain ⟨hP1, hK1, hD1⟩ := hB
  rw [ht] at hP1
  exact kk H1 locs1 hP1 (hD1.weaken (fun k q _ h => hFc _ h)) hS1
theorem z_calls {r : Int32} (X : CallFix p m c cc nL s args Ts own) (hM : cS l y ws rm As r) (cw : CallB R s args own index y bytes maxL ret ws rm 0 0 n ∧ (Cond.static y).before args s = true)
    (hn : As.length = n) (hsz : ls.size = nL) (hst : st0 = As.reverse ++ rest) (hW : (rest.map fun v => v.category).sum ≤ 8) (hdg : decode cc pc = .ok (.invokestatic index, 3)) (hf : cells + 0 ≤ R.cells ∧ slots + 0 ≤ R.slots)
    (kk : W p l e R s m args below meth c H locs cells slots Q (F0 m (pc + 3) ls (.int r :: rest))) :
    W p l e R s m args below meth c H locs cells slots Q (F0 m pc ls st0) := by
  refine vp_callSi (W.runS (As := As) (rest := rest) X hM cw ⟨fun a U g mk q => ⟨q.1, trivial⟩, fun U hU hW => ⟨rfl, trivial⟩⟩ rfl hn hsz hst (lv_room hW) hdg hf) (fun x hx => ?_)
  subst hx
  exact kk
/-! references to handlers: none, or some number of a handler -/
variable {ad : Nat → Nat} {r : Option Nat}
theorem z_null (ad : Nat → Nat) (hx : p.tables.exec = Jvm.exec) (hb : c.code = cc) (hdg : decode cc pc = .ok (.aconst_null, 1)) (k : W p l e R s m args below meth c H locs cells slots Q (F0 m (pc + 1) ls (va_re ad none :: rest))) : W p l e R s m args below meth c H locs cells slots Q (F0 m pc ls rest) :=
  lv_null hx hb hdg k
theorem z_aload_n (hx : p.tables.exec = Jvm.exec) (hb : c.code = cc) {k : Fin 4} {i : Nat} (hdg : decode cc pc = .ok (.aload_n k, 1)) (hi : (k : Nat) = i) (hl : ls[i]? = some (.val (va_re ad r)))
    (kk : W p l e R s m args below meth c H locs cells slots Q (F0 m (pc + 1) ls (va_re ad r :: rest))) : W p l e R s m args below meth c H locs cells slots Q (F0 m pc ls rest) := by
  cases r with
  | none => exact lv_aload_nN hx hb hdg hi hl kk
  | some j => exact lv_aload_n hx hb hdg hi hl kk
theorem z_aload (hx : p.tables.exec = Jvm.exec) (hb : c.code = cc) {i : Nat} (hdg : decode cc pc = .ok (.aload i, 2)) (hl : ls[i]? = some (.val (va_re ad r)))
    (kk : W p l e R s m args below meth c H locs cells slots Q (F0 m (pc + 2) ls (va_re ad r :: rest))) : W p l e R s m args below meth c H locs cells slots Q (F0 m pc ls rest) := by
  cases r with
  | none => exact lv_aloadN hx hb hdg hl kk
  | some j => exact lv_aload hx hb hdg hl kk
theorem z_astore (hx : p.tables.exec = Jvm.exec) (hb : c.code = cc) {i nL : Nat} {lv lv' : List (Nat × Value)} (hdg : decode cc pc = .ok (.astore i, 2)) (h : lv_has ls nL lv) (hn : i < nL) (hl : (i, va_re ad r) :: lv.filter (fun q => !(q.1 == i) && !(q.1 + 1 == i && q.2.category == 2)) = lv')
    (kk : ∀ ls' : Array Slot, lv_has ls' nL lv' → W p l e R s m args below meth c H locs cells slots Q (F0 m (pc + 2) ls' rest)) : W p l e R s m args below meth c H locs cells slots Q (F0 m pc ls (va_re ad r :: rest)) := by
  cases r with
  | none => exact lv_astoreN hx hb hdg h hn hl kk
  | some j => exact lv_astore hx hb hdg h hn hl kk
theorem z_ifnull (hx : p.tables.exec = Jvm.exec) (hb : c.code = cc) {off : Int} {tgt : Nat} (hdg : decode cc pc = .ok (.ifnull off, 3)) (ht : (pc : Int) + off = (tgt : Int)) (kt : r = none → W p l e R s m args below meth c H locs cells slots Q (F0 m tgt ls rest)) (kf : ¬ r = none → W p l e R s m args below meth c H locs cells slots Q (F0 m (pc + 3) ls rest)) : W p l e R s m args below meth c H locs cells slots Q (F0 m pc ls (va_re ad r :: rest)) := by
  cases r with
  | none => exact lv_ifnullN hx hb hdg ht (kt rfl)
  | some j => exact lv_ifnull hx hb hdg (kf (fun h => by cases h))
theorem z_ifnonnull (hx : p.tables.exec = Jvm.exec) (hb : c.code = cc) {off : Int} {tgt : Nat} (hdg : decode cc pc = .ok (.ifnonnull off, 3)) (ht : (pc : Int) + off = (tgt : Int)) (kt : ¬ r = none → W p l e R s m args below meth c H locs cells slots Q (F0 m tgt ls rest)) (kf : r = none → W p l e R s m args below meth c H locs cells slots Q (F0 m (pc + 3) ls rest)) : W p l e R s m args below meth c H locs cells slots Q (F0 m pc ls (va_re ad r :: rest)) := by
  cases r with
  | none => exact lv_ifnonnullN hx hb hdg (kf rfl)
  | some j => exact lv_ifnonnull hx hb hdg ht (kt (fun h => by cases h))
end ZR
