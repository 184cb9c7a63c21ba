/-! CONSTRUCTORS: rules over a world that still grows -/
def kset (κ : KX) (a : Nat → Nat) : KX := (κ.1, κ.2.1, κ.2.2.1, κ.2.2.2.1, κ.2.2.2.2.1, κ.2.2.2.2.2.1, κ.2.2.2.2.2.2.1, a)
theorem HW.mk1 {κ : KX} {w : va_W} {H1 s0 : Heap} {locs1 : List Loc} (hb : kb κ ≤ s0.size) (ho : ∀ q, q < kb κ → s0[q]? = (kH κ)[q]?) (hP : va_P (kD κ) vwCl w H1) (hD : va_D (kA κ) w) (hS : va_S (kA κ) s0 H1 locs1) : HW κ w H1 := by
  refine ⟨hP, hD, Nat.le_trans hb hS.1, fun q hq => ?_⟩
  rw [hS.2.1 q (Nat.lt_of_lt_of_le hq hb) (fun z => absurd z (Nat.not_le.mpr hq))]
  exact ho q hq
theorem w_at {w0 l : va_W} {i : Nat} {x : Nat × va_E} (h : l[i]? = some x) : (w0 ++ l)[w0.length + i]? = some x := by
  rw [List.getElem?_append_right (Nat.le_add_right _ _), Nat.add_sub_cancel_left]
  exact h
theorem w_set (w0 l : va_W) (i : Nat) (x : Nat × va_E) : (w0 ++ l).set (w0.length + i) x = w0 ++ l.set i x := by
  rw [List.set_append_right _ _ (Nat.le_add_right _ _), Nat.add_sub_cancel_left]
theorem kc_int {κ : KX} {U : State} {cA : ClassId} (hK : va_K (kD κ) vwCl (ktys κ) U) (h : va_K (kD κ) vwCl (ktys κ ++ [(cA, .int)]) U) : cA = kc κ 0 := by
  have h1 : U.vm.findClass _ = some (kc κ 0) := (hK.2 0 _ rfl).2
  have h2 : U.vm.findClass _ = some cA := (h.2 5 _ rfl).2
  exact Option.some.inj (h2.symm.trans h1)
theorem kc_char {κ : KX} {U : State} {cA : ClassId} (hK : va_K (kD κ) vwCl (ktys κ) U) (h : va_K (kD κ) vwCl (ktys κ ++ [(cA, .char)]) U) : cA = kc κ 1 := by
  have h1 : U.vm.findClass _ = some (kc κ 1) := (hK.2 1 _ rfl).2
  have h2 : U.vm.findClass _ = some cA := (h.2 5 _ rfl).2
  exact Option.some.inj (h2.symm.trans h1)
theorem kc_long {κ : KX} {U : State} {cA : ClassId} (hK : va_K (kD κ) vwCl (ktys κ) U) (h : va_K (kD κ) vwCl (ktys κ ++ [(cA, .long)]) U) : cA = kc κ 2 := by
  have h1 : U.vm.findClass _ = some (kc κ 2) := (hK.2 2 _ rfl).2
  have h2 : U.vm.findClass _ = some cA := (h.2 5 _ rfl).2
  exact Option.some.inj (h2.symm.trans h1)
theorem kc_o3 {κ : KX} {U : State} {cA : ClassId} (hK : va_K (kD κ) vwCl (ktys κ) U) (h : va_K (kD κ) vwCl (ktys κ ++ [(cA, .object RX3)]) U) : cA = kc κ 3 := by
  obtain ⟨_, _, _, _, _, h1⟩ := (hK.2 3 _ rfl).2
  obtain ⟨_, _, _, _, _, h2⟩ := (h.2 5 _ rfl).2
  exact Option.some.inj (h2.symm.trans h1)
theorem kc_o4 {κ : KX} {U : State} {cA : ClassId} (hK : va_K (kD κ) vwCl (ktys κ) U) (h : va_K (kD κ) vwCl (ktys κ ++ [(cA, .object RX2)]) U) : cA = kc κ 4 := by
  obtain ⟨_, _, _, _, _, h1⟩ := (hK.2 4 _ rfl).2
  obtain ⟨_, _, _, _, _, h2⟩ := (h.2 5 _ rfl).2
  exact Option.some.inj (h2.symm.trans h1)
section WPN
variable {κ : KX} {r : RM} {y : MD} {pc n : Nat} {L : List (Option Value)} {st : List Value} {w w0 l : va_W} {ct : Nat × Nat} {Q : Option Value → va_W → Prop}
theorem wp_kset {a : Nat → Nat} (h : WP (kset κ a) r y pc L st w ct Q) : WP κ r y pc L st w ct Q := h
theorem wp_wide {ct' : Nat × Nat} (h1 : ct.1 ≤ ct'.1) (h2 : ct.2 ≤ ct'.2) (k : WP κ r y pc L st w ct' Q) : WP κ r y pc L st w ct Q := by
  intro p e R s m args below meth c H locs ls C hl hH hS
  exact W.widen h1 h2 (k p e R s m args below meth c H locs ls C hl hH hS)
theorem wp_oinit {i a : Nat} (f : Cond.methodLink y.1.cls i objectInit ∈ TB) (d : St y pc (.invokespecial i) 3 n) (hr : 1 ≤ r.1) (hcat : (st.map fun v => v.category).sum ≤ 8) (k : WP κ r y n L st w ct Q) : WP κ r y pc L (.ref a :: st) w ct Q := by
  obtain ⟨hd, rfl⟩ := d
  intro p e R s m args below meth c H locs ls C hl hH hS
  have hR := C.2.2.2.2.2.1
  have hm := lv_room (m := m) (pc := pc) (ls := ls) (rest := .ref a :: st) hcat
  refine W.objInit C.1 C.2.1 C.2.2.2.1 (C.2.2.2.2.1 _ f) (C.2.2.2.2.1 _ im_obj) (C.2.2.2.2.1 _ co_obj) rfl (hl.1.trans C.2.2.1.symm) rfl hd (by omega) (by omega) ?_
  exact k p e R s m args below meth c H locs ls C hl hH hS
theorem wp_newO {i c : Nat} {q : vw_C} {fs : List Value} {ty : Nat → FieldType} (f : Cond.classLink y.1.cls i q.1 ∈ TB) (hi : Cond.instantiable q.1 q.2.2 ∈ TB) (hn : Cond.initialized q.1 ∈ TB) (hq : vwCl[c]? = some q) (hty : ∀ k, k < q.2.2 → parseFieldDescriptor (q.2.1 k).2.2.1 = some (ty k)) (hfs : ∀ j, j < q.2.2 → defaultValue (ty j) = vp_V fs j) (d : St y pc (.new i) 3 n) (hc : ct.1 + 1 ≤ r.2.1 ∧ ct.2 + q.2.2 ≤ r.2.2) (k : ∀ a, WP κ r y n L (.ref a :: st) (w0 ++ (l ++ [(a, .inr (c, fs))])) (ct.1 + 1, ct.2 + q.2.2) Q) : WP κ r y pc L st (w0 ++ l) ct Q := by
  obtain ⟨hd, rfl⟩ := d
  obtain ⟨h8, hw, -, hnm, hn8⟩ := cl_ok hq
  obtain ⟨qC, qT, qN⟩ := q
  intro p e R s m args below meth cd H locs ls C hl hH hS
  have hR := C.2.2.2.2.2.1
  refine va_new (C := qC) (T := qT) (N := qN) (ci := c) (fs := fs) C.1 C.2.1 C.2.2.2.2.1 hw ty hty C.2.2.2.1 (C.2.2.2.2.1 _ f) (C.2.2.2.2.1 _ hi) (C.2.2.2.2.1 _ hn) C.2.2.2.2.2.2.2.2.2.1.1 hH.1 hH.2.1 hS (fun q h => Nat.le_trans C.2.2.2.2.2.2.2.2.2.2.1 h) hq hfs (by rw [hR.2.2.1]; exact hc.1) (by rw [hR.2.2.2]; exact hc.2) hd (fun a H1 hP hD hS1 => ?_)
  rw [List.append_assoc] at hP hD
  exact k a p e R s m args below meth cd H1 locs ls C hl (HW.mk1 C.2.2.2.2.2.2.2.2.2.2.1 C.2.2.2.2.2.2.2.2.2.2.2 hP hD hS1) hS1
theorem wp_newI {N : Nat} {x : Int32} (d : St y pc (.newarray .int) 2 n) (hx : x = nI N) (hN : N < 1000) (hc : ct.1 + 1 ≤ r.2.1 ∧ ct.2 + N ≤ r.2.2) (k : ∀ a, WP κ r y n L (.ref a :: st) (w0 ++ (l ++ [(a, .inl (kc κ 0, N, .inl (fun _ => 0)))])) (ct.1 + 1, ct.2 + N) Q) : WP κ r y pc L (.int x :: st) (w0 ++ l) ct Q := by
  obtain ⟨hd, rfl⟩ := d
  intro p e_ R s m args below meth cd H locs ls C hl hH hS
  have hR := C.2.2.2.2.2.1
  have hK := C.2.2.2.2.2.2.2.2.2.1.1
  refine va_newa (atype := .int) (ty := .int) (N' := N) (a0 := (N, .inl (fun _ => 0))) C.1 C.2.1 (C.2.2.2.2.1 _ ac_int) rfl hK hH.1 hH.2.1 hS (fun q h => Nat.le_trans C.2.2.2.2.2.2.2.2.2.2.1 h) (fun cA => rfl) (by rw [hx]; exact nI_pos (by omega)) (by rw [hx]; exact nI_clamp (by omega)) (Nat.le_trans (Nat.mul_le_mul_right _ (Nat.le_of_lt hN)) (by decide)) (by rw [hR.2.2.1]; exact hc.1) (by rw [hR.2.2.2]; exact hc.2) hd (fun a cA H1 hK1 hP hD hS1 => ?_)
  have e := kc_int hK hK1
  subst e
  rw [List.append_assoc] at hP hD
  exact k a p e_ R s m args below meth cd H1 locs ls C hl (HW.mk1 C.2.2.2.2.2.2.2.2.2.2.1 C.2.2.2.2.2.2.2.2.2.2.2 hP hD hS1) hS1
theorem wp_newC {N : Nat} {x : Int32} (d : St y pc (.newarray .char) 2 n) (hx : x = nI N) (hN : N < 1000) (hc : ct.1 + 1 ≤ r.2.1 ∧ ct.2 + N ≤ r.2.2) (k : ∀ a, WP κ r y n L (.ref a :: st) (w0 ++ (l ++ [(a, .inl (kc κ 1, N, .inl (fun _ => 0)))])) (ct.1 + 1, ct.2 + N) Q) : WP κ r y pc L (.int x :: st) (w0 ++ l) ct Q := by
  obtain ⟨hd, rfl⟩ := d
  intro p e_ R s m args below meth cd H locs ls C hl hH hS
  have hR := C.2.2.2.2.2.1
  have hK := C.2.2.2.2.2.2.2.2.2.1.1
  refine va_newa (atype := .char) (ty := .char) (N' := N) (a0 := (N, .inl (fun _ => 0))) C.1 C.2.1 (C.2.2.2.2.1 _ ac_char) rfl hK hH.1 hH.2.1 hS (fun q h => Nat.le_trans C.2.2.2.2.2.2.2.2.2.2.1 h) (fun cA => rfl) (by rw [hx]; exact nI_pos (by omega)) (by rw [hx]; exact nI_clamp (by omega)) (Nat.le_trans (Nat.mul_le_mul_right _ (Nat.le_of_lt hN)) (by decide)) (by rw [hR.2.2.1]; exact hc.1) (by rw [hR.2.2.2]; exact hc.2) hd (fun a cA H1 hK1 hP hD hS1 => ?_)
  have e := kc_char hK hK1
  subst e
  rw [List.append_assoc] at hP hD
  exact k a p e_ R s m args below meth cd H1 locs ls C hl (HW.mk1 C.2.2.2.2.2.2.2.2.2.2.1 C.2.2.2.2.2.2.2.2.2.2.2 hP hD hS1) hS1
theorem wp_newL {N : Nat} {x : Int32} (d : St y pc (.newarray .long) 2 n) (hx : x = nI N) (hN : N < 1000) (hc : ct.1 + 1 ≤ r.2.1 ∧ ct.2 + N ≤ r.2.2) (k : ∀ a, WP κ r y n L (.ref a :: st) (w0 ++ (l ++ [(a, .inl (kc κ 2, N, .inr (.inl (fun _ => 0))))])) (ct.1 + 1, ct.2 + N) Q) : WP κ r y pc L (.int x :: st) (w0 ++ l) ct Q := by
  obtain ⟨hd, rfl⟩ := d
  intro p e_ R s m args below meth cd H locs ls C hl hH hS
  have hR := C.2.2.2.2.2.1
  have hK := C.2.2.2.2.2.2.2.2.2.1.1
  refine va_newa (atype := .long) (ty := .long) (N' := N) (a0 := (N, .inr (.inl (fun _ => 0)))) C.1 C.2.1 (C.2.2.2.2.1 _ ac_long) rfl hK hH.1 hH.2.1 hS (fun q h => Nat.le_trans C.2.2.2.2.2.2.2.2.2.2.1 h) (fun cA => rfl) (by rw [hx]; exact nI_pos (by omega)) (by rw [hx]; exact nI_clamp (by omega)) (Nat.le_trans (Nat.mul_le_mul_right _ (Nat.le_of_lt hN)) (by decide)) (by rw [hR.2.2.1]; exact hc.1) (by rw [hR.2.2.2]; exact hc.2) hd (fun a cA H1 hK1 hP hD hS1 => ?_)
  have e := kc_long hK hK1
  subst e
  rw [List.append_assoc] at hP hD
  exact k a p e_ R s m args below meth cd H1 locs ls C hl (HW.mk1 C.2.2.2.2.2.2.2.2.2.2.1 C.2.2.2.2.2.2.2.2.2.2.2 hP hD hS1) hS1
theorem wp_newQ3 {i N : Nat} {x : Int32} (f : Cond.classLink y.1.cls i RX3 ∈ TB) (d : St y pc (.anewarray i) 3 n) (hx : x = nI N) (hN : N < 1000) (hc : ct.1 + 1 ≤ r.2.1 ∧ ct.2 + N ≤ r.2.2) (k : ∀ a, WP κ r y n L (.ref a :: st) (w0 ++ (l ++ [(a, .inl (kc κ 3, N, .inr (.inr (.inr (.inr (fun _ => none))))))])) (ct.1 + 1, ct.2 + N) Q) : WP κ r y pc L (.int x :: st) (w0 ++ l) ct Q := by
  obtain ⟨hd, rfl⟩ := d
  intro p e_ R s m args below meth cd H locs ls C hl hH hS
  have hR := C.2.2.2.2.2.1
  have hK := C.2.2.2.2.2.2.2.2.2.1.1
  refine va_newq (C := RX3) (N' := N) C.1 C.2.1 C.2.2.2.1 (C.2.2.2.2.1 _ f) C.2.2.2.2.2.2.2.2.2.1.2.2.2.2.2.1 hK hH.1 hH.2.1 hS (fun q h => Nat.le_trans C.2.2.2.2.2.2.2.2.2.2.1 h) (by rw [hx]; exact nI_pos (by omega)) (by rw [hx]; exact nI_clamp (by omega)) (by omega) (by rw [hR.2.2.1]; exact hc.1) (by rw [hR.2.2.2]; exact hc.2) hd (fun a cA H1 hK1 hP hD hS1 => ?_)
  have e := kc_o3 hK hK1
  subst e
  rw [List.append_assoc] at hP hD
  exact k a p e_ R s m args below meth cd H1 locs ls C hl (HW.mk1 C.2.2.2.2.2.2.2.2.2.2.1 C.2.2.2.2.2.2.2.2.2.2.2 hP hD hS1) hS1
theorem wp_newQ4 {i N : Nat} {x : Int32} (f : Cond.classLink y.1.cls i RX2 ∈ TB) (d : St y pc (.anewarray i) 3 n) (hx : x = nI N) (hN : N < 1000) (hc : ct.1 + 1 ≤ r.2.1 ∧ ct.2 + N ≤ r.2.2) (k : ∀ a, WP κ r y n L (.ref a :: st) (w0 ++ (l ++ [(a, .inl (kc κ 4, N, .inr (.inr (.inr (.inr (fun _ => none))))))])) (ct.1 + 1, ct.2 + N) Q) : WP κ r y pc L (.int x :: st) (w0 ++ l) ct Q := by
  obtain ⟨hd, rfl⟩ := d
  intro p e_ R s m args below meth cd H locs ls C hl hH hS
  have hR := C.2.2.2.2.2.1
  have hK := C.2.2.2.2.2.2.2.2.2.1.1
  refine va_newq (C := RX2) (N' := N) C.1 C.2.1 C.2.2.2.1 (C.2.2.2.2.1 _ f) C.2.2.2.2.2.2.2.2.2.1.2.2.2.2.2.2 hK hH.1 hH.2.1 hS (fun q h => Nat.le_trans C.2.2.2.2.2.2.2.2.2.2.1 h) (by rw [hx]; exact nI_pos (by omega)) (by rw [hx]; exact nI_clamp (by omega)) (by omega) (by rw [hR.2.2.1]; exact hc.1) (by rw [hR.2.2.2]; exact hc.2) hd (fun a cA H1 hK1 hP hD hS1 => ?_)
  have e := kc_o4 hK hK1
  subst e
  rw [List.append_assoc] at hP hD
  exact k a p e_ R s m args below meth cd H1 locs ls C hl (HW.mk1 C.2.2.2.2.2.2.2.2.2.2.1 C.2.2.2.2.2.2.2.2.2.2.2 hP hD hS1) hS1
theorem wp_putF {i c j q0 a : Nat} {v : Value} {ty1 : FieldType} {fs : List Value} (f : FL y.1.cls i c j) (d : St y pc (.putfield i) 3 n) (he : l[q0]? = some (a, .inr (c, fs))) (h1 : ∀ q : vw_C, vwCl[c]? = some q → j < q.2.2 → (q.2.1 j).2.2.2 = true ∧ parseFieldDescriptor (q.2.1 j).2.2.1 = some ty1 ∧ (q.2.1 j).1 = y.1.cls) (hi : y.1.name = "<init>") (hn1 : narrow ty1 v = v) (hf1 : fits ty1 v = true) (hl0 : j < fs.length) (kk : WP κ r y n L st (w0 ++ l.set q0 (a, .inr (c, fs.set j v))) ct Q) : WP κ r y pc L (v :: .ref a :: st) (w0 ++ l) ct Q := by
  obtain ⟨hd, rfl⟩ := d
  obtain ⟨q, hq, hj, hf⟩ := f
  obtain ⟨g1, g2, g3⟩ := h1 q hq hj
  obtain ⟨h8, hw, ⟨ty, hty⟩, hnm, hn⟩ := cl_ok hq
  obtain ⟨qC, qT, qN⟩ := q
  intro p e R s m args below meth cd H locs ls C hl hH hS
  refine va_putF (C := qC) (T := qT) (N := qN) (ci := c) (ref := (qT j).1) (fs := fs) C.1 C.2.1 C.2.2.2.2.1 hw ty hty hnm C.2.2.2.1 C.2.2.2.2.2.2.2.2.2.1.1 hH.1 hH.2.1 hS (w0.length + q0) (w_at he) hq j hj (C.2.2.2.2.1 _ hf) (fun _ h => h) g1 (C.2.2.2.2.2.2.2.2.1.trans hi) g3 g2 hn1 hf1 hl0 hd (fun H1 locs1 hP hD hS1 => ?_)
  rw [w_set] at hP hD
  exact kk p e R s m args below meth cd H1 locs1 ls C hl (HW.mk1 C.2.2.2.2.2.2.2.2.2.2.1 C.2.2.2.2.2.2.2.2.2.2.2 hP hD hS1) hS1
theorem wp_putG {i c j q0 a : Nat} {v : Value} {ty1 : FieldType} {fs : List Value} (f : FL y.1.cls i c j) (d : St y pc (.putfield i) 3 n) (he : l[q0]? = some (a, .inr (c, fs))) (h1 : ∀ q : vw_C, vwCl[c]? = some q → j < q.2.2 → (q.2.1 j).2.2.2 = false ∧ parseFieldDescriptor (q.2.1 j).2.2.1 = some ty1 ∧ (q.2.1 j).1 = y.1.cls) (hi : y.1.name = "<init>") (hn1 : narrow ty1 v = v) (hf1 : fits ty1 v = true) (hl0 : j < fs.length) (kk : WP κ r y n L st (w0 ++ l.set q0 (a, .inr (c, fs.set j v))) ct Q) : WP κ r y pc L (v :: .ref a :: st) (w0 ++ l) ct Q := by
  obtain ⟨hd, rfl⟩ := d
  obtain ⟨q, hq, hj, hf⟩ := f
  obtain ⟨g1, g2, g3⟩ := h1 q hq hj
  obtain ⟨h8, hw, ⟨ty, hty⟩, hnm, hn⟩ := cl_ok hq
  obtain ⟨qC, qT, qN⟩ := q
  intro p e R s m args below meth cd H locs ls C hl hH hS
  refine va_put (C := qC) (T := qT) (N := qN) (ci := c) (ref := (qT j).1) (fs := fs) C.1 C.2.1 C.2.2.2.2.1 hw ty hty hnm C.2.2.2.1 C.2.2.2.2.2.2.2.2.2.1.1 hH.1 hH.2.1 hS (w0.length + q0) (w_at he) hq j hj (C.2.2.2.2.1 _ hf) (fun _ h => h) g1 g2 hn1 hf1 hl0 hd (fun H1 locs1 hP hD hS1 => ?_)
  rw [w_set] at hP hD
  exact kk p e R s m args below meth cd H1 locs1 ls C hl (HW.mk1 C.2.2.2.2.2.2.2.2.2.2.1 C.2.2.2.2.2.2.2.2.2.2.2 hP hD hS1) hS1
theorem wp_getG {i c j q0 a : Nat} {v : Value} {fs : List Value} (f : FL y.1.cls i c j) (d : St y pc (.getfield i) 3 n) (he : l[q0]? = some (a, .inr (c, fs))) (hv : fs[j]? = some v) (kk : WP κ r y n L (v :: st) (w0 ++ l) ct Q) : WP κ r y pc L (.ref a :: st) (w0 ++ l) ct Q := by
  obtain ⟨hd, rfl⟩ := d
  obtain ⟨q, hq, hj, hf⟩ := f
  obtain ⟨h8, hw, ⟨ty, hty⟩, hnm, hn⟩ := cl_ok hq
  obtain ⟨qC, qT, qN⟩ := q
  intro p e R s m args below meth cd H locs ls C hl hH hS
  exact va_get (C := qC) (T := qT) (N := qN) (ci := c) (ref := (qT j).1) (fs := fs) C.1 C.2.1 C.2.2.2.2.1 hw C.2.2.2.1 C.2.2.2.2.2.2.2.2.2.1.1 hH.1 (w0.length + q0) (w_at he) hq j hj (C.2.2.2.2.1 _ hf) (fun _ h => h) (v := v) hv hd (kk p e R s m args below meth cd H locs ls C hl hH hS)
theorem wp_aast3 {j q0 qk a b N : Nat} {x : Int32} {vs : List Value} {f : Nat → Option Nat} (d : St y pc (.aastore) 1 n) (ha : l[q0]? = some (a, .inl (kc κ 3, N, .inr (.inr (.inr (.inr f)))))) (hv : l[qk]? = some (b, .inr (3, vs))) (hx : x = nI j) (hj : j < N) (hN : N < 1000) (kk : WP κ r y n L st (w0 ++ l.set q0 (a, .inl (kc κ 3, N, .inr (.inr (.inr (.inr (va_up f j (some b)))))))) ct Q) : WP κ r y pc L (.ref b :: .int x :: .ref a :: st) (w0 ++ l) ct Q := by
  obtain ⟨hd, rfl⟩ := d
  intro p e R s m args below meth cd H locs ls C hl hH hS
  have ej : x.toNatClampNeg = j := by rw [hx]; exact nI_clamp (by omega)
  refine va_astq (cA := kc κ 3) (n := N) (f := f) (vs := vs) C.1 C.2.1 C.2.2.2.2.2.2.2.2.2.1.1 hH.1 hH.2.1 hS (w0.length + q0) 3 (w0.length + qk) 3 (w_at ha) rfl (w_at hv) rfl (by rw [hx]; exact vp_in_nI hj (by omega)) hd (fun H1 locs1 hP hD hS1 => ?_)
  rw [w_set, ej] at hP hD
  exact kk p e R s m args below meth cd H1 locs1 ls C hl (HW.mk1 C.2.2.2.2.2.2.2.2.2.2.1 C.2.2.2.2.2.2.2.2.2.2.2 hP hD hS1) hS1
theorem wp_aast4 {j q0 qk a b N : Nat} {x : Int32} {vs : List Value} {f : Nat → Option Nat} (d : St y pc (.aastore) 1 n) (ha : l[q0]? = some (a, .inl (kc κ 4, N, .inr (.inr (.inr (.inr f)))))) (hv : l[qk]? = some (b, .inr (2, vs))) (hx : x = nI j) (hj : j < N) (hN : N < 1000) (kk : WP κ r y n L st (w0 ++ l.set q0 (a, .inl (kc κ 4, N, .inr (.inr (.inr (.inr (va_up f j (some b)))))))) ct Q) : WP κ r y pc L (.ref b :: .int x :: .ref a :: st) (w0 ++ l) ct Q := by
  obtain ⟨hd, rfl⟩ := d
  intro p e R s m args below meth cd H locs ls C hl hH hS
  have ej : x.toNatClampNeg = j := by rw [hx]; exact nI_clamp (by omega)
  refine va_astq (cA := kc κ 4) (n := N) (f := f) (vs := vs) C.1 C.2.1 C.2.2.2.2.2.2.2.2.2.1.1 hH.1 hH.2.1 hS (w0.length + q0) 4 (w0.length + qk) 2 (w_at ha) rfl (w_at hv) rfl (by rw [hx]; exact vp_in_nI hj (by omega)) hd (fun H1 locs1 hP hD hS1 => ?_)
  rw [w_set, ej] at hP hD
  exact kk p e R s m args below meth cd H1 locs1 ls C hl (HW.mk1 C.2.2.2.2.2.2.2.2.2.2.1 C.2.2.2.2.2.2.2.2.2.2.2 hP hD hS1) hS1
/-- a row of references that says more behind its end -/
theorem arrV_cg {cA : ClassId} {N : Nat} {f g : Nat → Value} (h : ∀ j, j < N → f j = g j) : arrV cA N f = arrV cA N g := by
  unfold arrV
  congr 1
  apply Array.ext
  · simp
  · intro j h1 h2
    simp only [Array.getElem_ofFn]
    exact h j (by simpa using h1)
theorem wp_rows {q0 a N : Nat} {cA : ClassId} {f g : Nat → Option Nat} (he : l[q0]? = some (a, .inl (cA, N, .inr (.inr (.inr (.inr f)))))) (hfg : ∀ j, j < N → f j = g j) (kk : WP κ r y pc L st (w0 ++ l.set q0 (a, .inl (cA, N, .inr (.inr (.inr (.inr g)))))) ct Q) : WP κ r y pc L st (w0 ++ l) ct Q := by
  intro p e R s m args below meth cd H locs ls C hl hH hS
  refine kk p e R s m args below meth cd H locs ls C hl ⟨?_, ?_, hH.2.2⟩ hS
  · rw [← w_set]
    refine va_P.set hH.1 hH.2.1 (w_at he) ?_ (fun _ _ => rfl)
    have h := hH.1 _ _ (w_at (w0 := w0) he)
    show H[a]? = some (vp_cell cA (N, _))
    rw [vp_cell_q, ← arrV_cg (f := fun j => va_rf (f j)) (fun j hj => by rw [hfg j hj])]
    exact h
  · rw [← w_set]
    exact hH.2.1.set (w_at he)
end WPN
