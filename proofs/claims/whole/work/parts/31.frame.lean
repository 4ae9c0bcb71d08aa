/-! two worlds side by side -/
theorem zD_l {A : Nat → Prop} {w v : va_W} (h : va_D A (w ++ v)) : va_D A w := by
  refine ⟨fun i j p q hi hj e => ?_, fun k q hk => ?_⟩
  · have li := (List.getElem?_eq_some_iff.mp hi).1
    have lj := (List.getElem?_eq_some_iff.mp hj).1
    exact h.1 i j p q (by rw [List.getElem?_append_left li]; exact hi) (by rw [List.getElem?_append_left lj]; exact hj) e
  · have lk := (List.getElem?_eq_some_iff.mp hk).1
    exact h.2 k q (by rw [List.getElem?_append_left lk]; exact hk)
theorem z_ar {w v : va_W} {k : Nat} {q : Nat × va_E} (h : v[k]? = some q) : (w ++ v)[w.length + k]? = some q := by
  rw [List.getElem?_append_right (by omega)]
  rw [show w.length + k - w.length = k by omega]
  exact h
theorem z_al {w v : va_W} {k : Nat} {q : Nat × va_E} (h : w[k]? = some q) : (w ++ v)[k]? = some q := by
  rw [List.getElem?_append_left (List.getElem?_eq_some_iff.mp h).1]
  exact h
theorem zD_r {A : Nat → Prop} {w v : va_W} (h : va_D A (w ++ v)) : va_D A v := by
  refine ⟨fun i j p q hi hj e => ?_, fun k q hk => ?_⟩
  · have := h.1 _ _ p q (z_ar (w := w) hi) (z_ar (w := w) hj) e
    omega
  · exact h.2 _ q (z_ar (w := w) hk)
theorem zD_x {A : Nat → Prop} {w v : va_W} (h : va_D A (w ++ v)) {i j : Nat} {p q : Nat × va_E} (hi : w[i]? = some p) (hj : v[j]? = some q) : p.1 ≠ q.1 := fun e => by
  have li := (List.getElem?_eq_some_iff.mp hi).1
  have := h.1 _ _ p q (z_al (v := v) hi) (z_ar (w := w) hj) e
  omega
theorem zP_l {D : va_G} {cl : List vw_C} {w v : va_W} {H : Heap} (h : va_P D cl (w ++ v) H) : va_P D cl w H := fun k q hk => h k q (z_al hk)
theorem zP_r {D : va_G} {cl : List vw_C} {w v : va_W} {H : Heap} (h : va_P D cl (w ++ v) H) : va_P D cl v H := fun k q hk => h _ q (z_ar hk)
theorem zD_c {A : Nat → Prop} {w v : va_W} (h : va_D A (w ++ v)) : va_D A (v ++ w) := va_D.app (zD_r h) (zD_l h) (fun i j p q hi hj e => zD_x h hj hi e.symm)
theorem zP_c {D : va_G} {cl : List vw_C} {w v : va_W} {H : Heap} (h : va_P D cl (w ++ v) H) : va_P D cl (v ++ w) H := va_P.app (zP_r h) (zP_l h)
/-- behind a call that had the second world alone -/
theorem z_fr {A0 : Nat → Prop} {D : va_G} {cl : List vw_C} {w w1 w2 : va_W} {H H1 : Heap} (hP : va_P D cl (w ++ w1) H) (hD : va_D A0 (w ++ w1)) (hk : ∀ q : Nat, q < H.size → ¬ va_A w1 H.size q → H1[q]? = H[q]?) (hF : ∀ q, va_A w1 H.size q → A0 q) (hP1 : va_P D cl w2 H1) (hD1 : va_D (va_A w1 H.size) w2) : va_P D cl (w ++ w2) H1 ∧ va_D A0 (w ++ w2) := by
  have ap : ∀ (k : Nat) (q : Nat × va_E), w[k]? = some q → q.1 < H.size ∧ ¬ va_A w1 H.size q.1 := by
    intro k q hq
    have hl := (zP_l hP k q hq).lt
    refine ⟨hl, ?_⟩
    rintro (⟨k2, e, h⟩ | h)
    · exact zD_x hD hq h rfl
    · omega
  refine ⟨va_P.app (fun k q hq => (zP_l hP k q hq).kept (hk q.1 (ap k q hq).1 (ap k q hq).2)) hP1, va_D.app (zD_l hD) (hD1.weaken (fun k q _ h => hF q.1 h)) (fun i j x y hx hy hxy => ?_)⟩
  exact (ap i x hx).2 (by rw [hxy]; exact hD1.2 j y hy)
theorem z_fr_keep {A0 : Nat → Prop} {D : va_G} {cl : List vw_C} {w w1 : va_W} {H H1 : Heap} (hP : va_P D cl (w ++ w1) H) (hD : va_D A0 (w ++ w1)) (hk : ∀ q : Nat, q < H.size → ¬ va_A w1 H.size q → H1[q]? = H[q]?) : va_P D cl w H1 := by
  intro k q hq
  have hl := (zP_l hP k q hq).lt
  refine (zP_l hP k q hq).kept (hk q.1 hl ?_)
  rintro (⟨k2, e, h⟩ | h)
  · exact zD_x hD hq h rfl
  · omega
/-! a new handler -/
theorem z_reU {ad : Nat → Nat} {n q : Nat} {r : Option Nat} (h : okr n r) : va_re (va_up ad n q) r = va_re ad r := by
  cases r with
  | none => rfl
  | some j =>
    have hj := h j rfl
    show Value.ref (va_up ad n q j) = Value.ref (ad j)
    rw [va_up_ne _ _ (by omega)]
theorem z_mapU {ad : Nat → Nat} {n q : Nat} {r : Option Nat} (h : okr n r) : r.map (va_up ad n q) = r.map ad := by
  cases r with
  | none => rfl
  | some j =>
    have hj := h j rfl
    show some (va_up ad n q j) = some (ad j)
    rw [va_up_ne _ _ (by omega)]
theorem z_hFsU {ad : Nat → Nat} {n q : Nat} {h : HR} (h1 : okr n (h_former h)) (h2 : okr n (h_other h)) : hFs (va_up ad n q) h = hFs ad h := by
  unfold hFs
  rw [z_reU h1, z_reU h2]
theorem xPl_push {ad : Nat → Nat} {n q : Nat} {tab : Nat → HR} {h : HR} (ht : ∀ i, okr n (h_former (tab i)) ∧ okr n (h_other (tab i))) (h1 : okr n (h_former h)) (h2 : okr n (h_other h)) : xPl ad n tab ++ [(q, .inr (0, hFs ad h))] = xPl (va_up ad n q) (n + 1) (va_up tab n h) := by
  unfold xPl
  rw [List.range_succ, List.map_append]
  have e1 : (List.range n).map (fun i => ((ad i, .inr (0, hFs ad (tab i))) : Nat × va_E)) = (List.range n).map (fun i => (va_up ad n q i, .inr (0, hFs (va_up ad n q) (va_up tab n h i)))) := by
    apply List.map_congr_left
    intro i hi
    have hi := List.mem_range.mp hi
    rw [va_up_ne _ _ (by omega), va_up_ne _ _ (by omega), z_hFsU (ht i).1 (ht i).2]
  rw [e1]
  simp only [List.map_cons, List.map_nil, va_up_self]
  rw [z_hFsU h1 h2]
theorem xW_push {O : Nat → Nat} {K : Nat → ClassId} {ad : Nat → Nat} {σ : SX} {q : Nat} {h : HR} (hok : xok σ) (h1 : okr (x_n σ) (h_former h)) (h2 : okr (x_n σ) (h_other h)) : xW O K ad σ ++ [(q, .inr (0, hFs ad h))] = xW O K (va_up ad (x_n σ) q) (xs_n (xs_tab σ (va_up (x_tab σ) (x_n σ) h)) (x_n σ + 1)) := by
  have e : (fun k => (x_hd σ k).map ad) = fun k => (x_hd σ k).map (va_up ad (x_n σ) q) := funext fun k => (z_mapU (hok.1 k)).symm
  have e2 := xPl_push (ad := ad) (q := q) hok.2 h1 h2
  unfold xW
  rw [e, List.append_assoc, e2]
  rfl
