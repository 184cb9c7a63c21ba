/-! THE WORLD of the two objects: 129 cells at the addresses ka; references never change, numbers are M -/
abbrev MM : Type := (Nat → Nat → Int32) × (Nat → Nat → Int64)
def kdB : List Nat := [4, 10, 10, 3, 10, 10, 10, 10, 1, 13, 3, 10, 10, 10, 10, 3, 10, 10, 10, 10, 3, 10, 10, 10, 10, 3, 10, 10, 10, 10, 3, 10, 10, 10, 10, 3, 10, 10, 10, 10, 3, 10, 10, 10, 10, 3, 10, 10, 10, 10]
def lnB : List Nat := [0, 6, 6, 0, 5, 5, 5, 6, 0, 8, 0, 5, 5, 5, 6, 0, 5, 5, 5, 6, 0, 5, 5, 5, 6, 0, 5, 5, 5, 6, 0, 5, 5, 5, 6, 0, 5, 5, 5, 6, 0, 5, 5, 5, 6, 0, 5, 5, 5, 6]
def kdT : List Nat := [0, 10, 10, 10, 10, 5, 11, 10, 10, 10, 14, 2, 12, 2, 12, 2, 12, 2, 12, 7, 10, 10, 10, 10, 10, 10, 10, 12]
def lnT : List Nat := [0, 5, 5, 5, 5, 0, 60, 6, 6, 5, 4, 0, 24, 0, 24, 0, 24, 0, 24, 0, 223, 223, 223, 223, 60, 4, 4, 96]
/-- the kind of a cell: below 8 an object of that class; 10 ints, 11 chars, 12 longs, 13 Standings, 14 Sheets -/
def kd (k : Nat) : Nat := (6 :: (kdB ++ (kdB ++ kdT))).getD k 99
def ln (k : Nat) : Nat := (0 :: (lnB ++ (lnB ++ lnT))).getD k 0
def nfc (c : Nat) : Nat := [5, 3, 4, 6, 7, 8, 6, 13].getD c 0
def isR (c j : Nat) : Bool := ([[true, true, true, true, true], [true, false, false], [true, false, false, false], [true, true, true, true, false, false], [true, true, false, false, false, true, true], [true, false, true, true, true, false, false, false], [true, true, false, true, true, true], [true, true, true, true, false, true, false, true, true, true, false, false, false]].getD c []).getD j false
/-- what a reference points at -/
def rf (k j : Nat) : Nat := match kd k with
  | 3 => k + 1 + j
  | 2 => k + 1
  | 4 => k + [1, 2, 0, 0, 0, 3, 8].getD j 0
  | 1 => k + 1
  | 13 => k + 1 + 5 * j
  | 14 => k + 1 + 2 * j
  | 0 => if j = 0 then 1 else k + j
  | 5 => k + [1, 0, 2, 3, 4].getD j 0
  | 6 => [1, 51, 0, 101, 106, 111].getD j 0
  | _ => k + [1, 2, 3, 4, 0, 5, 0, 6, 7, 8].getD j 0
def rv (κ : KX) (k : Nat) : Value := .ref (ka κ k)
def fv (κ : KX) (M : MM) (k j : Nat) : Value := if isR (kd k) j = true then .ref (ka κ (rf k j)) else .int (M.1 k j)
def ceq (κ : KX) (M : MM) (k : Nat) : va_E :=
  if kd k < 8 then .inr (kd k, (List.range (nfc (kd k))).map (fv κ M k))
  else if kd k = 10 then .inl (kc κ 0, ln k, .inl (M.1 k))
  else if kd k = 11 then .inl (kc κ 1, ln k, .inl (M.1 k))
  else if kd k = 12 then .inl (kc κ 2, ln k, .inr (.inl (M.2 k)))
  else if kd k = 13 then .inl (kc κ 3, ln k, .inr (.inr (.inr (.inr fun j => some (ka κ (rf k j))))))
  else .inl (kc κ 4, ln k, .inr (.inr (.inr (.inr fun j => some (ka κ (rf k j))))))
def wM (κ : KX) (M : MM) : va_W := (List.range 129).map fun k => (ka κ k, ceq κ M k)
theorem wM_len (κ : KX) (M : MM) : (wM κ M).length = 129 := by simp [wM]
theorem wM_at (κ : KX) (M : MM) {k : Nat} (h : k < 129) : (wM κ M)[k]? = some (ka κ k, ceq κ M k) := by
  simp [wM, h]
theorem wM_set {κ : KX} {M M' : MM} {k : Nat} {e : va_E} (he : e = ceq κ M' k) (h : ∀ j, j ≠ k → ceq κ M' j = ceq κ M j) : (wM κ M).set k (ka κ k, e) = wM κ M' := by
  subst he
  apply List.ext_getElem?
  intro j
  by_cases hj : j = k
  · subst hj
    by_cases hl : j < 129
    · rw [List.getElem?_set_self (by rw [wM_len]; exact hl), wM_at κ M' hl]
    · rw [List.getElem?_eq_none (by rw [List.length_set, wM_len]; omega), List.getElem?_eq_none (by rw [wM_len]; omega)]
  · rw [List.getElem?_set_ne (fun z => hj z.symm)]
    by_cases hl : j < 129
    · rw [wM_at κ M hl, wM_at κ M' hl, h j hj]
    · rw [List.getElem?_eq_none (by rw [wM_len]; omega), List.getElem?_eq_none (by rw [wM_len]; omega)]
theorem kd_lt {k c : Nat} (h : kd k = c) (hc : c < 99) : k < 129 := by
  by_cases hk : k < 129
  · exact hk
  · have hz : kd k = 99 := by
      have h2 : 129 ≤ k := by omega
      unfold kd
      rw [List.getD_eq_getElem?_getD, List.getElem?_eq_none (by simp [kdB, kdT]; omega)]
      rfl
    omega
/-- writing: an int (field or element), a long element, a whole row of ints, of longs -/
def sI (M : MM) (k j : Nat) (v : Int32) : MM := (fun a => if a = k then upd (M.1 k) j v else M.1 a, M.2)
def sL (M : MM) (k j : Nat) (v : Int64) : MM := (M.1, fun a => if a = k then vp_updL (M.2 k) j v else M.2 a)
def rI (M : MM) (k : Nat) (f : Nat → Int32) : MM := (fun a => if a = k then f else M.1 a, M.2)
def rL (M : MM) (k : Nat) (f : Nat → Int64) : MM := (M.1, fun a => if a = k then f else M.2 a)
theorem ceq_congr {κ : KX} {M M' : MM} {k : Nat} (h1 : M'.1 k = M.1 k) (h2 : M'.2 k = M.2 k) : ceq κ M' k = ceq κ M k := by
  have h3 : fv κ M' k = fv κ M k := by
    funext j
    simp [fv, h1]
  unfold ceq
  rw [h1, h2, h3]
/-- the heap behind a write -/
theorem HW.put {κ : KX} {w : va_W} {H1 : Heap} {q0 a : Nat} {e : va_E} {s0 : Heap} (hb : kb κ ≤ s0.size) (ho : ∀ q, q < kb κ → s0[q]? = (kH κ)[q]?) {locs1 : List Loc} (hP : va_P (kD κ) vwCl (w.set q0 (a, e)) H1) (hD : va_D (kA κ) (w.set q0 (a, e))) (hS : va_S (kA κ) s0 H1 locs1) : HW κ (w.set q0 (a, e)) H1 := by
  refine ⟨hP, hD, Nat.le_trans hb hS.1, fun q hq => ?_⟩
  rw [hS.2.1 q (Nat.lt_of_lt_of_le hq hb) (fun z => absurd z (Nat.not_le.mpr hq))]
  exact ho q hq
theorem HW.to {κ : KX} {M M' : MM} {k : Nat} {e : va_E} {H1 : Heap} (h : HW κ ((wM κ M).set k (ka κ k, e)) H1) (he : e = ceq κ M' k) (ho : ∀ j, j ≠ k → ceq κ M' j = ceq κ M j) : HW κ (wM κ M') H1 := by
  rw [wM_set he ho] at h
  exact h
/-- what is so of every class of the world -/
def CLok (c : Nat) (q : vw_C) : Prop := (∀ w ∈ u_ws q.1 q.2.1 q.2.2, w ∈ TB) ∧ (∃ ty : Nat → FieldType, ∀ k, k < q.2.2 → parseFieldDescriptor (q.2.1 k).2.2.1 = some (ty k)) ∧ (∀ a, a < q.2.2 → ∀ b, b < q.2.2 → a ≠ b → (q.2.1 a).2.1 ≠ (q.2.1 b).2.1) ∧ q.2.2 = nfc c
theorem cl_ok {c : Nat} {q : vw_C} (h : vwCl[c]? = some q) : c < 8 ∧ CLok c q := by
  match c, h with
  | 0, h => cases h; exact ⟨by decide, laX0, ⟨tyX0, tyX0_ok⟩, nmX0, rfl⟩
  | 1, h => cases h; exact ⟨by decide, laX1, ⟨tyX1, tyX1_ok⟩, nmX1, rfl⟩
  | 2, h => cases h; exact ⟨by decide, laX2, ⟨tyX2, tyX2_ok⟩, nmX2, rfl⟩
  | 3, h => cases h; exact ⟨by decide, laX3, ⟨tyX3, tyX3_ok⟩, nmX3, rfl⟩
  | 4, h => cases h; exact ⟨by decide, laX4, ⟨tyX4, tyX4_ok⟩, nmX4, rfl⟩
  | 5, h => cases h; exact ⟨by decide, laX5, ⟨tyX5, tyX5_ok⟩, nmX5, rfl⟩
  | 6, h => cases h; exact ⟨by decide, laX6, ⟨tyX6, tyX6_ok⟩, nmX6, rfl⟩
  | 7, h => cases h; exact ⟨by decide, laX7, ⟨tyX7, tyX7_ok⟩, nmX7, rfl⟩
  | c + 8, h => simp [vwCl] at h
/-- fields that are written outside a constructor: 1 ints, 2 booleans -/
def fty (c j : Nat) : Nat := ([[], [0, 1, 1], [0, 2, 1, 1], [0, 0, 0, 0, 1, 1], [0, 0, 1, 1, 1, 0, 0], [0, 1, 0, 0, 0, 1, 1, 1], [0, 0, 2, 0, 0, 0], [0, 0, 0, 0, 2, 0, 1, 0, 0, 0, 1, 1, 2]].getD c []).getD j 0
theorem fty_all : ∀ c, c < 8 → ∀ j, j < nfc c → (fty c j = 1 → ((vwCl.getD c (RX0, TX0, 5)).2.1 j).2.2.2 = false ∧ parseFieldDescriptor ((vwCl.getD c (RX0, TX0, 5)).2.1 j).2.2.1 = some .int) ∧ (fty c j = 2 → ((vwCl.getD c (RX0, TX0, 5)).2.1 j).2.2.2 = false ∧ parseFieldDescriptor ((vwCl.getD c (RX0, TX0, 5)).2.1 j).2.2.1 = some .boolean) := by decide +kernel
theorem fty_at {c j : Nat} {q : vw_C} (h : vwCl[c]? = some q) (hj : j < q.2.2) : (fty c j = 1 → (q.2.1 j).2.2.2 = false ∧ parseFieldDescriptor (q.2.1 j).2.2.1 = some .int) ∧ (fty c j = 2 → (q.2.1 j).2.2.2 = false ∧ parseFieldDescriptor (q.2.1 j).2.2.1 = some .boolean) := by
  obtain ⟨hc, -, -, -, hn⟩ := cl_ok h
  have h2 := fty_all c hc j (by rw [← hn]; exact hj)
  rw [List.getD_eq_getElem?_getD, h] at h2
  exact h2
theorem ceq_obj {κ : KX} {M : MM} {k c : Nat} (h : kd k = c) (hc : c < 8) : ceq κ M k = .inr (c, (List.range (nfc c)).map (fv κ M k)) := by
  unfold ceq
  rw [if_pos (by omega), h]
theorem fv_int {κ : KX} {M : MM} {k j c : Nat} (h : kd k = c) (hr : isR c j = false) : fv κ M k j = .int (M.1 k j) := by simp [fv, h, hr]
theorem fv_ref {κ : KX} {M : MM} {k j c : Nat} (h : kd k = c) (hr : isR c j = true) : fv κ M k j = rv κ (rf k j) := by simp [fv, h, hr, rv]
theorem sI_fs {κ : KX} {M : MM} {k j c : Nat} {v : Int32} (h : kd k = c) (hj : j < nfc c) (hr : isR c j = false) : ((List.range (nfc c)).map (fv κ M k)).set j (.int v) = (List.range (nfc c)).map (fv κ (sI M k j v) k) := by
  apply List.ext_getElem?
  intro i
  by_cases hi : i = j
  · subst hi
    rw [List.getElem?_set_self (by simpa using hj)]
    simp [hj, fv, h, hr, sI, upd]
  · rw [List.getElem?_set_ne (fun z => hi z.symm)]
    simp only [List.getElem?_map]
    cases hx : (List.range (nfc c))[i]? with
    | none => rfl
    | some z =>
      have hz : z = i := by
        have h3 := (List.getElem?_eq_some_iff.mp hx).2
        simpa using h3.symm
      subst hz
      simp [fv, sI, upd, hi]
section WPM
variable {κ : KX} {r : RM} {y : MD} {pc n : Nat} {L : List (Option Value)} {st : List Value} {M : MM} {ct : Nat × Nat} {Q : Option Value → va_W → Prop}
theorem wp_getf {i c j k : Nat} (f : FL y.1.cls i c j) (d : St y pc (.getfield i) 3 n) (hc : kd k = c) (kk : WP κ r y n L (fv κ M k j :: st) (wM κ M) ct Q) : WP κ r y pc L (rv κ k :: st) (wM κ M) ct Q := by
  obtain ⟨hd, rfl⟩ := d
  obtain ⟨q, hq, hj, hf⟩ := f
  obtain ⟨h8, hw, ⟨ty, hty⟩, hnm, hn⟩ := cl_ok hq
  obtain ⟨qC, qT, qN⟩ := q
  intro p e R s m args below meth cd H locs ls C hl hH hS
  refine va_get (C := qC) (T := qT) (N := qN) (ci := c) (ref := (qT j).1) (fs := (List.range (nfc c)).map (fv κ M k)) C.1 C.2.1 C.2.2.2.2.1 hw C.2.2.2.1 C.2.2.2.2.2.2.2.2.2.1.1 hH.1 k ?_ hq j hj (C.2.2.2.2.1 _ hf) (fun _ h => h) (v := fv κ M k j) ?_ hd (kk p e R s m args below meth cd H locs ls C hl hH hS)
  · rw [wM_at κ M (kd_lt hc (by omega)), ceq_obj hc h8]
  · have hj2 : j < nfc c := by rw [← hn]; exact hj
    simp [hj2]
theorem wp_getI {i c j k : Nat} (f : FL y.1.cls i c j) (d : St y pc (.getfield i) 3 n) (hc : kd k = c) (hr : isR c j = false) (kk : WP κ r y n L (.int (M.1 k j) :: st) (wM κ M) ct Q) : WP κ r y pc L (rv κ k :: st) (wM κ M) ct Q :=
  wp_getf f d hc (by rw [fv_int hc hr]; exact kk)
theorem wp_getR {i c j k t : Nat} (f : FL y.1.cls i c j) (d : St y pc (.getfield i) 3 n) (hc : kd k = c) (hr : isR c j = true) (ht : rf k j = t) (kk : WP κ r y n L (rv κ t :: st) (wM κ M) ct Q) : WP κ r y pc L (rv κ k :: st) (wM κ M) ct Q :=
  wp_getf f d hc (by rw [fv_ref hc hr, ht]; exact kk)
theorem wp_put {i c j k : Nat} {v : Int32} {ty1 : FieldType} (f : FL y.1.cls i c j) (d : St y pc (.putfield i) 3 n) (hc : kd k = c) (hr : isR c j = false) (h1 : ∀ q : vw_C, vwCl[c]? = some q → j < q.2.2 → (q.2.1 j).2.2.2 = false ∧ parseFieldDescriptor (q.2.1 j).2.2.1 = some ty1) (hn1 : narrow ty1 (.int v) = .int v) (hf1 : fits ty1 (.int v) = true) (kk : WP κ r y n L st (wM κ (sI M k j v)) ct Q) : WP κ r y pc L (.int v :: rv κ k :: st) (wM κ M) ct Q := by
  obtain ⟨hd, rfl⟩ := d
  obtain ⟨q, hq, hj, hf⟩ := f
  obtain ⟨g1, g2⟩ := h1 q hq hj
  obtain ⟨h8, hw, ⟨ty, hty⟩, hnm, hn⟩ := cl_ok hq
  obtain ⟨qC, qT, qN⟩ := q
  intro p e R s m args below meth cd H locs ls C hl hH hS
  have hj2 : j < nfc c := by rw [← hn]; exact hj
  refine va_put (C := qC) (T := qT) (N := qN) (ci := c) (ref := (qT j).1) (fs := (List.range (nfc c)).map (fv κ M k)) C.1 C.2.1 C.2.2.2.2.1 hw ty hty hnm C.2.2.2.1 C.2.2.2.2.2.2.2.2.2.1.1 hH.1 hH.2.1 hS k ?_ hq j hj (C.2.2.2.2.1 _ hf) (fun _ h => h) g1 g2 hn1 hf1 (by simpa using hj2) hd (fun H1 locs1 hP hD hS1 => ?_)
  · rw [wM_at κ M (kd_lt hc (by omega)), ceq_obj hc h8]
  · have hH1 := HW.put C.2.2.2.2.2.2.2.2.2.2.1 C.2.2.2.2.2.2.2.2.2.2.2 hP hD hS1
    have hH1 := hH1.to (M' := sI M k j v) (by rw [ceq_obj hc h8, sI_fs hc hj2 hr]) (fun a ha => ceq_congr (by simp [sI, ha]) rfl)
    exact kk p e R s m args below meth cd H1 locs1 ls C hl hH1 hS1
theorem wp_putI {i c j k : Nat} {v : Int32} (f : FL y.1.cls i c j) (d : St y pc (.putfield i) 3 n) (hc : kd k = c) (hr : isR c j = false) (h1 : fty c j = 1) (kk : WP κ r y n L st (wM κ (sI M k j v)) ct Q) : WP κ r y pc L (.int v :: rv κ k :: st) (wM κ M) ct Q :=
  wp_put f d hc hr (fun q hq hj => (fty_at hq hj).1 h1) rfl rfl kk
theorem wp_putZ {i c j k : Nat} {v : Int32} (f : FL y.1.cls i c j) (d : St y pc (.putfield i) 3 n) (hc : kd k = c) (hr : isR c j = false) (h1 : fty c j = 2) (hv : narrow .boolean (.int v) = .int v) (hf : fits .boolean (.int v) = true) (kk : WP κ r y n L st (wM κ (sI M k j v)) ct Q) : WP κ r y pc L (.int v :: rv κ k :: st) (wM κ M) ct Q :=
  wp_put f d hc hr (fun q hq hj => (fty_at hq hj).2 h1) hv hf kk
theorem ln_lt : ∀ k, ln k < 1000 := by
  intro k
  by_cases h : k < 129
  · have h2 : ∀ k, k < 129 → ln k < 1000 := by decide +kernel
    exact h2 k h
  · unfold ln
    rw [List.getD_eq_getElem?_getD, List.getElem?_eq_none (by simp [lnB, lnT]; omega)]
    decide
theorem ix_in {x : Int32} {j k : Nat} (hx : x = nI j) (hj : j < ln k) : vp_in x (ln k) ∧ x.toNatClampNeg = j := by
  have h2 := ln_lt k
  subst hx
  exact ⟨vp_in_nI hj (by omega), nI_clamp (by omega)⟩
theorem wp_iald {k j : Nat} {x : Int32} (d : St y pc (.iaload) 1 n) (hc : kd k = 10) (hx : x = nI j) (hj : j < ln k) (kk : WP κ r y n L (.int (M.1 k j) :: st) (wM κ M) ct Q) : WP κ r y pc L (.int x :: rv κ k :: st) (wM κ M) ct Q := by
  obtain ⟨hd, rfl⟩ := d
  obtain ⟨hi, he⟩ := ix_in hx hj
  intro p e R s m args below meth cd H locs ls C hl hH hS
  refine va_iald (cA := kc κ 0) (n := ln k) (f := M.1 k) C.1 C.2.1 C.2.2.2.2.2.2.2.2.2.1.1 hH.1 k 0 ?_ rfl hi hd ?_
  · rw [wM_at κ M (kd_lt hc (by omega))]
    simp [ceq, hc]
  · rw [he]
    exact kk p e R s m args below meth cd H locs ls C hl hH hS
theorem wp_iast {k j : Nat} {x v : Int32} (d : St y pc (.iastore) 1 n) (hc : kd k = 10) (hx : x = nI j) (hj : j < ln k) (kk : WP κ r y n L st (wM κ (sI M k j v)) ct Q) : WP κ r y pc L (.int v :: .int x :: rv κ k :: st) (wM κ M) ct Q := by
  obtain ⟨hd, rfl⟩ := d
  obtain ⟨hi, he⟩ := ix_in hx hj
  intro p e R s m args below meth cd H locs ls C hl hH hS
  refine va_iast (cA := kc κ 0) (n := ln k) (f := M.1 k) C.1 C.2.1 C.2.2.2.2.2.2.2.2.2.1.1 hH.1 hH.2.1 hS k 0 ?_ rfl hi hd (fun H1 locs1 hP hD hS1 => ?_)
  · rw [wM_at κ M (kd_lt hc (by omega))]
    simp [ceq, hc]
  · have hH1 := HW.put C.2.2.2.2.2.2.2.2.2.2.1 C.2.2.2.2.2.2.2.2.2.2.2 hP hD hS1
    have hH1 := hH1.to (M' := sI M k j v) (by simp [ceq, hc, sI, he]) (fun a ha => ceq_congr (by simp [sI, ha]) rfl)
    exact kk p e R s m args below meth cd H1 locs1 ls C hl hH1 hS1
theorem wp_cald {k j : Nat} {x : Int32} (d : St y pc (.caload) 1 n) (hc : kd k = 11) (hx : x = nI j) (hj : j < ln k) (kk : WP κ r y n L (.int (M.1 k j) :: st) (wM κ M) ct Q) : WP κ r y pc L (.int x :: rv κ k :: st) (wM κ M) ct Q := by
  obtain ⟨hd, rfl⟩ := d
  obtain ⟨hi, he⟩ := ix_in hx hj
  intro p e R s m args below meth cd H locs ls C hl hH hS
  refine va_cald (cA := kc κ 1) (n := ln k) (f := M.1 k) C.1 C.2.1 C.2.2.2.2.2.2.2.2.2.1.1 hH.1 k 1 ?_ rfl hi hd ?_
  · rw [wM_at κ M (kd_lt hc (by omega))]
    simp [ceq, hc]
  · rw [he]
    exact kk p e R s m args below meth cd H locs ls C hl hH hS
theorem wp_cast {k j : Nat} {x v : Int32} (d : St y pc (.castore) 1 n) (hc : kd k = 11) (hx : x = nI j) (hj : j < ln k) (kk : WP κ r y n L st (wM κ (sI M k j (vp_nar .char v))) ct Q) : WP κ r y pc L (.int v :: .int x :: rv κ k :: st) (wM κ M) ct Q := by
  obtain ⟨hd, rfl⟩ := d
  obtain ⟨hi, he⟩ := ix_in hx hj
  intro p e R s m args below meth cd H locs ls C hl hH hS
  refine va_cast (cA := kc κ 1) (n := ln k) (f := M.1 k) C.1 C.2.1 C.2.2.2.2.2.2.2.2.2.1.1 hH.1 hH.2.1 hS k 1 ?_ rfl hi hd (fun H1 locs1 hP hD hS1 => ?_)
  · rw [wM_at κ M (kd_lt hc (by omega))]
    simp [ceq, hc]
  · have hH1 := HW.put C.2.2.2.2.2.2.2.2.2.2.1 C.2.2.2.2.2.2.2.2.2.2.2 hP hD hS1
    have hH1 := hH1.to (M' := sI M k j (vp_nar .char v)) (by simp [ceq, hc, sI, he]) (fun a ha => ceq_congr (by simp [sI, ha]) rfl)
    exact kk p e R s m args below meth cd H1 locs1 ls C hl hH1 hS1
theorem wp_lald {k j : Nat} {x : Int32} (d : St y pc (.laload) 1 n) (hc : kd k = 12) (hx : x = nI j) (hj : j < ln k) (kk : WP κ r y n L (.long (M.2 k j) :: st) (wM κ M) ct Q) : WP κ r y pc L (.int x :: rv κ k :: st) (wM κ M) ct Q := by
  obtain ⟨hd, rfl⟩ := d
  obtain ⟨hi, he⟩ := ix_in hx hj
  intro p e R s m args below meth cd H locs ls C hl hH hS
  refine va_lald (cA := kc κ 2) (n := ln k) (f := M.2 k) C.1 C.2.1 C.2.2.2.2.2.2.2.2.2.1.1 hH.1 k 2 ?_ rfl hi hd ?_
  · rw [wM_at κ M (kd_lt hc (by omega))]
    simp [ceq, hc]
  · rw [he]
    exact kk p e R s m args below meth cd H locs ls C hl hH hS
theorem wp_last {k j : Nat} {x : Int32} {v : Int64} (d : St y pc (.lastore) 1 n) (hc : kd k = 12) (hx : x = nI j) (hj : j < ln k) (kk : WP κ r y n L st (wM κ (sL M k j v)) ct Q) : WP κ r y pc L (.long v :: .int x :: rv κ k :: st) (wM κ M) ct Q := by
  obtain ⟨hd, rfl⟩ := d
  obtain ⟨hi, he⟩ := ix_in hx hj
  intro p e R s m args below meth cd H locs ls C hl hH hS
  refine va_last (cA := kc κ 2) (n := ln k) (f := M.2 k) C.1 C.2.1 C.2.2.2.2.2.2.2.2.2.1.1 hH.1 hH.2.1 hS k 2 ?_ rfl hi hd (fun H1 locs1 hP hD hS1 => ?_)
  · rw [wM_at κ M (kd_lt hc (by omega))]
    simp [ceq, hc]
  · have hH1 := HW.put C.2.2.2.2.2.2.2.2.2.2.1 C.2.2.2.2.2.2.2.2.2.2.2 hP hD hS1
    have hH1 := hH1.to (M' := sL M k j v) (by simp [ceq, hc, sL, he]) (fun a ha => ceq_congr rfl (by simp [sL, ha]))
    exact kk p e R s m args below meth cd H1 locs1 ls C hl hH1 hS1
theorem wp_aald {k j t : Nat} {x : Int32} (d : St y pc (.aaload) 1 n) (hc : kd k = 13 ∨ kd k = 14) (hx : x = nI j) (hj : j < ln k) (ht : rf k j = t) (kk : WP κ r y n L (rv κ t :: st) (wM κ M) ct Q) : WP κ r y pc L (.int x :: rv κ k :: st) (wM κ M) ct Q := by
  subst ht
  obtain ⟨hd, rfl⟩ := d
  obtain ⟨hi, he⟩ := ix_in hx hj
  intro p e R s m args below meth cd H locs ls C hl hH hS
  rcases hc with hc | hc
  · refine va_aldq (cA := kc κ 3) (C := RX3) (n := ln k) (f := fun j => some (ka κ (rf k j))) C.1 C.2.1 C.2.2.2.2.2.2.2.2.2.1.1 hH.1 k 3 ?_ rfl hi hd ?_
    · rw [wM_at κ M (kd_lt hc (by omega))]
      simp [ceq, hc]
    · rw [he]
      exact kk p e R s m args below meth cd H locs ls C hl hH hS
  · refine va_aldq (cA := kc κ 4) (C := RX2) (n := ln k) (f := fun j => some (ka κ (rf k j))) C.1 C.2.1 C.2.2.2.2.2.2.2.2.2.1.1 hH.1 k 4 ?_ rfl hi hd ?_
    · rw [wM_at κ M (kd_lt hc (by omega))]
      simp [ceq, hc]
    · rw [he]
      exact kk p e R s m args below meth cd H locs ls C hl hH hS
theorem wp_alen {k : Nat} (d : St y pc (.arraylength) 1 n) (hc : kd k = 10) (kk : WP κ r y n L (.int (nI (ln k)) :: st) (wM κ M) ct Q) : WP κ r y pc L (rv κ k :: st) (wM κ M) ct Q := by
  obtain ⟨hd, rfl⟩ := d
  intro p e R s m args below meth cd H locs ls C hl hH hS
  refine va_alen (cA := kc κ 0) (x := (ln k, .inl (M.1 k))) (ty := .int) C.1 C.2.1 C.2.2.2.2.2.2.2.2.2.1.1 hH.1 k 0 ?_ rfl rfl hd (kk p e R s m args below meth cd H locs ls C hl hH hS)
  rw [wM_at κ M (kd_lt hc (by omega))]
  simp [ceq, hc]
theorem nfw_le : nativeFrameWords "java/lang/System" "arraycopy" 5 + 11 ≤ 37 - 8 := by decide +kernel
theorem wp_copyi {i k0 k1 a b z : Nat} {xa xb xz : Int32} (f : Cond.methodLink y.1.cls i arraycopyName ∈ TB) (d : St y pc (.invokestatic i) 3 n) (h0 : kd k0 = 10) (h1 : kd k1 = 10) (ha : xa = nI a) (hb : xb = nI b) (hz : xz = nI z) (hl0 : a + z ≤ ln k0) (hl1 : b + z ≤ ln k1) (hr : 1 ≤ r.1) (hcat : (st.map fun v => v.category).sum ≤ 8) (kk : WP κ r y n L st (wM κ (rI M k1 (va_cpy (M.1 k0) (M.1 k1) a b z))) ct Q) : WP κ r y pc L (.int xz :: .int xb :: rv κ k1 :: .int xa :: rv κ k0 :: st) (wM κ M) ct Q := by
  obtain ⟨hd, rfl⟩ := d
  have l0 := ln_lt k0
  have l1 := ln_lt k1
  have ea : xa.toNatClampNeg = a := by rw [ha]; exact nI_clamp (by omega)
  have eb : xb.toNatClampNeg = b := by rw [hb]; exact nI_clamp (by omega)
  have ez : xz.toNatClampNeg = z := by rw [hz]; exact nI_clamp (by omega)
  intro p e R s m args below meth cd H locs ls C hl hH hS
  have hR := C.2.2.2.2.2.1
  have hnf := nfw_le
  refine va_copyi (c0 := kc κ 0) (c1 := kc κ 0) (n0 := ln k0) (n1 := ln k1) (f := M.1 k0) (g := M.1 k1) (ty := .int) C.1 C.2.1 (C.2.2.1.trans hl.1.symm) C.2.2.2.1 (C.2.2.2.2.1 _ f) (C.2.2.2.2.1 _ nt_cp) (C.2.2.2.2.1 _ st_cp) (C.2.2.2.2.1 _ in_sys) C.2.2.2.2.2.2.2.2.2.1.1 hH.1 hH.2.1 hS k0 k1 0 0 ?_ ?_ rfl rfl rfl (by rw [ha]; exact nI_pos (by omega)) (by rw [hb]; exact nI_pos (by omega)) (by rw [hz]; exact nI_pos (by omega)) (by rw [ea, ez]; exact hl0) (by rw [eb, ez]; exact hl1) (fun _ _ => rfl) (by omega) (by omega) hd (fun H1 locs1 hP hD hS1 => ?_)
  · rw [wM_at κ M (kd_lt h0 (by omega))]
    simp [ceq, h0]
  · rw [wM_at κ M (kd_lt h1 (by omega))]
    simp [ceq, h1]
  · have hH1 := HW.put C.2.2.2.2.2.2.2.2.2.2.1 C.2.2.2.2.2.2.2.2.2.2.2 hP hD hS1
    rw [ea, eb, ez] at hH1
    have hH1 := hH1.to (M' := rI M k1 (va_cpy (M.1 k0) (M.1 k1) a b z)) (by simp [ceq, h1, rI]) (fun a ha => ceq_congr (by simp [rI, ha]) rfl)
    exact kk p e R s m args below meth cd H1 locs1 ls C hl hH1 hS1
theorem wp_copyl {i k0 k1 a b z : Nat} {xa xb xz : Int32} (f : Cond.methodLink y.1.cls i arraycopyName ∈ TB) (d : St y pc (.invokestatic i) 3 n) (h0 : kd k0 = 12) (h1 : kd k1 = 12) (ha : xa = nI a) (hb : xb = nI b) (hz : xz = nI z) (hl0 : a + z ≤ ln k0) (hl1 : b + z ≤ ln k1) (hr : 1 ≤ r.1) (hcat : (st.map fun v => v.category).sum ≤ 8) (kk : WP κ r y n L st (wM κ (rL M k1 (va_cpy (M.2 k0) (M.2 k1) a b z))) ct Q) : WP κ r y pc L (.int xz :: .int xb :: rv κ k1 :: .int xa :: rv κ k0 :: st) (wM κ M) ct Q := by
  obtain ⟨hd, rfl⟩ := d
  have l0 := ln_lt k0
  have l1 := ln_lt k1
  have ea : xa.toNatClampNeg = a := by rw [ha]; exact nI_clamp (by omega)
  have eb : xb.toNatClampNeg = b := by rw [hb]; exact nI_clamp (by omega)
  have ez : xz.toNatClampNeg = z := by rw [hz]; exact nI_clamp (by omega)
  intro p e R s m args below meth cd H locs ls C hl hH hS
  have hR := C.2.2.2.2.2.1
  have hnf := nfw_le
  refine va_copyl (c0 := kc κ 2) (c1 := kc κ 2) (n0 := ln k0) (n1 := ln k1) (f := M.2 k0) (g := M.2 k1) (ty := .long) C.1 C.2.1 (C.2.2.1.trans hl.1.symm) C.2.2.2.1 (C.2.2.2.2.1 _ f) (C.2.2.2.2.1 _ nt_cp) (C.2.2.2.2.1 _ st_cp) (C.2.2.2.2.1 _ in_sys) C.2.2.2.2.2.2.2.2.2.1.1 hH.1 hH.2.1 hS k0 k1 2 2 ?_ ?_ rfl rfl rfl (by rw [ha]; exact nI_pos (by omega)) (by rw [hb]; exact nI_pos (by omega)) (by rw [hz]; exact nI_pos (by omega)) (by rw [ea, ez]; exact hl0) (by rw [eb, ez]; exact hl1) (fun _ _ => rfl) (by omega) (by omega) hd (fun H1 locs1 hP hD hS1 => ?_)
  · rw [wM_at κ M (kd_lt h0 (by omega))]
    simp [ceq, h0]
  · rw [wM_at κ M (kd_lt h1 (by omega))]
    simp [ceq, h1]
  · have hH1 := HW.put C.2.2.2.2.2.2.2.2.2.2.1 C.2.2.2.2.2.2.2.2.2.2.2 hP hD hS1
    rw [ea, eb, ez] at hH1
    have hH1 := hH1.to (M' := rL M k1 (va_cpy (M.2 k0) (M.2 k1) a b z)) (by simp [ceq, h1, rL]) (fun a ha => ceq_congr rfl (by simp [rL, ha]))
    exact kk p e R s m args below meth cd H1 locs1 ls C hl hH1 hS1
end WPM
/-! ===== calls ===== -/
def psh : Option Value → List Value → List Value
  | none, l => l
  | some v, l => v :: l
section WPC
variable {κ : KX} {r r' : RM} {y y' : MD} {pc n : Nat} {L : List (Option Value)} {st : List Value} {w : va_W} {M : MM} {ct : Nat × Nat} {Q : Option Value → va_W → Prop}
theorem wp_max {i : Nat} {x z : Int32} (f : Cond.methodLink y.1.cls i Lib.Math.max.name ∈ TB) (d : St y pc (.invokestatic i) 3 n) (hr : 1 ≤ r.1 ∧ ct.1 ≤ r.2.1 ∧ ct.2 ≤ r.2.2) (hcat : (st.map fun v => v.category).sum ≤ 8) (k : WP κ r y n L (.int (if x < z then z else x) :: st) w ct Q) : WP κ r y pc L (.int z :: .int x :: st) w ct Q := by
  obtain ⟨hd, rfl⟩ := d
  intro p e R s m args below meth cd H locs ls C hl hH hS
  have hR := C.2.2.2.2.2.1
  exact va_mmax C.1 C.2.1 (C.2.2.1.trans hl.1.symm) C.2.2.2.1 (C.2.2.2.2.1 _ f) (C.2.2.2.2.1 _ st_max) (C.2.2.2.2.1 _ in_math) (C.2.2.2.2.1 _ co_mmax) (by omega) (by omega) (by omega) (by omega) hd (k p e R s m args below meth cd H locs ls C hl hH hS)
theorem wp_min {i : Nat} {x z : Int32} (f : Cond.methodLink y.1.cls i Lib.Math.min.name ∈ TB) (d : St y pc (.invokestatic i) 3 n) (hr : 1 ≤ r.1 ∧ ct.1 ≤ r.2.1 ∧ ct.2 ≤ r.2.2) (hcat : (st.map fun v => v.category).sum ≤ 8) (k : WP κ r y n L (.int (if z < x then z else x) :: st) w ct Q) : WP κ r y pc L (.int z :: .int x :: st) w ct Q := by
  obtain ⟨hd, rfl⟩ := d
  intro p e R s m args below meth cd H locs ls C hl hH hS
  have hR := C.2.2.2.2.2.1
  exact va_mmin C.1 C.2.1 (C.2.2.1.trans hl.1.symm) C.2.2.2.1 (C.2.2.2.2.1 _ f) (C.2.2.2.2.1 _ st_min) (C.2.2.2.2.1 _ in_math) (C.2.2.2.2.1 _ co_mmin) (by omega) (by omega) (by omega) (by omega) hd (k p e R s m args below meth cd H locs ls C hl hH hS)
/-- what a call needs beside its kind -/
def Lev (r r' : RM) (ct : Nat × Nat) : Prop := r'.1 + 1 ≤ r.1 ∧ ct.1 + r'.2.1 ≤ r.2.1 ∧ ct.2 + r'.2.2 ≤ r.2.2
theorem wp_back {p : Program} {e : Env} {R : Room} {s : State} {m : MethodId} {args : Array Value} {below : List Frame} {meth : Method} {c : Code} {H : Heap} {locs : List Loc} {ls : Array Slot} {stk : List Value} {a : Array Value} (C : Cx κ r y p R s m args meth c) (hl : lvL ls y.2.2.1 L) (hS : va_S (kA κ) s.heap H locs)
    (h : va_Run p κ.1 e R s m args below meth c H locs ct.1 ct.2 r'.2.1 r'.2.2 (F0 m pc ls stk) st (QW κ (fun v w' => WP κ r y (pc + 3) L (psh v st) w' (ct.1 + r'.2.1, ct.2 + r'.2.2) Q) a) (kA κ)) : W p κ.1 e R s m args below meth c H locs ct.1 ct.2 (MQ below (QW κ Q) args s r.2.1 r.2.2 (kA κ)) (F0 m pc ls stk) := by
  intro T hT X
  obtain ⟨v, st₀, t, T', L', h0, X', hL, e1, e2, ⟨⟨v2, w', hv, hQ, hH'⟩, hz, hk⟩, stp⟩ := h T hT X
  cases hv
  rw [h0] at hz hk
  have hS' : va_S (kA κ) s.heap t.heap (locs ++ L') := ⟨Nat.le_trans hS.1 hz, fun q h1 h2 => by rw [hk q (Nat.lt_of_lt_of_le h1 hS.1) h2]; exact hS.2.1 q h1 h2, fun q hq => by
    rcases List.mem_append.mp hq with h | h
    · exact hS.2.2 q h
    · exact hL q h⟩
  have hpsh : v.toList ++ st = psh v st := by cases v <;> rfl
  obtain ⟨t2, a1, b1⟩ := hQ p e R s m args below meth c t.heap (locs ++ L') ls C hl hH' hS' T' e1 X'
  rw [← hpsh] at a1
  exact ⟨t2, stp t2 a1, b1⟩
theorem wp_pays {R : Room} {s : State} {m : MethodId} {args : Array Value} {meth : Method} {c : Code} {p : Program} {na : Nat} (C : Cx κ r y p R s m args meth c) (ok : cOK y' na) : (∀ w ∈ (Cond.code y'.1 y'.2.1 y'.2.2.1 y'.2.2.2 :: TB), ∀ (a' : Array Value) (U : State), s.WarmedH U.vm → w.before a' U = true) :=
  pay_in C.2.2.2.2.1 (fun w hw => by
    rcases List.mem_cons.mp hw with rfl | h
    · exact ⟨ok.2.1, TB_good ok.2.1⟩
    · exact ⟨h, TB_good h⟩)
theorem wp_callB {R : Room} {s : State} {m : MethodId} {args : Array Value} {meth : Method} {c : Code} {p : Program} {i na : Nat} (C : Cx κ r y p R s m args meth c) (hl : Cond.methodLink y.1.cls i y'.1 ∈ TB) (ok : cOK y' na) (lv : Lev r r' ct) : CallB R s args y.1.cls i y'.1 y'.2.1 y'.2.2.1 y'.2.2.2 (Cond.code y'.1 y'.2.1 y'.2.2.1 y'.2.2.2 :: TB) (rm_of r') r'.2.1 r'.2.2 na := by
  have hR := C.2.2.2.2.2.1
  have h18 := ok.2.2.2.2.1
  have h1 := lv.1
  refine ⟨rfl, rfl, by show r'.1 + 1 ≤ _; omega, by show 8 + (_ + 11) + 37 * r'.1 ≤ _; omega, wp_pays C ok, List.mem_cons_self, C.2.2.2.2.1 _ ok.2.1, C.2.2.2.2.1 _ ok.1, ok.2.2.1, fun sig h => ?_, C.2.2.2.2.1 _ hl⟩
  have h2 := ok.2.2.2.1
  rw [h] at h2
  exact (Option.some.inj h2).symm
theorem wp_callN {R : Room} {s : State} {m : MethodId} {args : Array Value} {meth : Method} {c : Code} {p : Program} {i na : Nat} (C : Cx κ r y p R s m args meth c) (hl : Cond.methodLinkNest y.1.cls i y'.1 "QuarrelWalls" ∈ NW) (ok : cOK y' na) (lv : Lev r r' ct) : va_CN R s args y.1.cls i y'.1 "QuarrelWalls" y'.2.1 y'.2.2.1 y'.2.2.2 (Cond.code y'.1 y'.2.1 y'.2.2.1 y'.2.2.2 :: TB) (rm_of r') r'.2.1 r'.2.2 na := by
  have hR := C.2.2.2.2.2.1
  have h18 := ok.2.2.2.2.1
  have h1 := lv.1
  refine ⟨⟨rfl, rfl, by show r'.1 + 1 ≤ _; omega, by show 8 + (_ + 11) + 37 * r'.1 ≤ _; omega, wp_pays C ok, List.mem_cons_self⟩, C.2.2.2.2.1 _ ok.2.1, C.2.2.2.2.1 _ ok.1, ok.2.2.1, fun sig h => ?_, va_Nw.use rfl (C.2.2.2.2.2.2.2.2.2.1.2.1 _ hl)⟩
  have h2 := ok.2.2.2.1
  rw [h] at h2
  exact (Option.some.inj h2).symm
theorem wp_preS {p : Program} {R : Room} {s : State} {m : MethodId} {args : Array Value} {meth : Method} {c : Code} {H : Heap} {As : List Value} (C : Cx κ r y p R s m args meth c) (hH : HW κ w H) : PreS s H (va_Pc As (PU κ w)) As :=
  ⟨PU.blind, fun U hU hW => ⟨rfl, by rw [hU]; exact hH, KN.moved hW C.2.2.2.2.2.2.2.2.2.1⟩⟩
theorem wp_callS {i na : Nat} {As : List Value} {stk : List Value} (f : CS y.1.cls i y' na) (d : St y pc (.invokestatic i) 3 n) (lv : Lev r r' ct) (hn : As.length = na) (hst : stk = As.reverse ++ st) (hcat : (st.map fun v => v.category).sum ≤ 8) (h : CT κ r' y' As w (fun v w' => WP κ r y n L (psh v st) w' (ct.1 + r'.2.1, ct.2 + r'.2.2) Q)) : WP κ r y pc L stk w ct Q := by
  obtain ⟨hd, rfl⟩ := d
  intro p e R s m args below meth c H locs ls C hl hH hS
  have hR := C.2.2.2.2.2.1
  exact wp_back C hl hS (va_runS ⟨C.1, C.2.1, C.2.2.1, C.2.2.2.1, C.2.2.2.2.1⟩ h ⟨wp_callB C f.1 f.2.2 lv, C.2.2.2.2.1 _ f.2.1⟩ (wp_preS C hH) rfl hn hl.1 hst (lv_room hcat) hd ⟨by rw [hR.2.2.1]; exact lv.2.1, by rw [hR.2.2.2]; exact lv.2.2⟩)
theorem wp_callSN {i na : Nat} {As : List Value} {stk : List Value} (f : NS y.1.cls i y' na) (d : St y pc (.invokestatic i) 3 n) (lv : Lev r r' ct) (hn : As.length = na) (hst : stk = As.reverse ++ st) (hcat : (st.map fun v => v.category).sum ≤ 8) (h : CT κ r' y' As w (fun v w' => WP κ r y n L (psh v st) w' (ct.1 + r'.2.1, ct.2 + r'.2.2) Q)) : WP κ r y pc L stk w ct Q := by
  obtain ⟨hd, rfl⟩ := d
  intro p e R s m args below meth c H locs ls C hl hH hS
  have hR := C.2.2.2.2.2.1
  exact wp_back C hl hS (va_runSN ⟨C.1, C.2.1, C.2.2.1, C.2.2.2.1, C.2.2.2.2.1⟩ h ⟨wp_callN C f.1 f.2.2 lv, C.2.2.2.2.1 _ f.2.1, trivial⟩ (wp_preS C hH) rfl hn hl.1 hst (lv_room hcat) hd ⟨by rw [hR.2.2.1]; exact lv.2.1, by rw [hR.2.2.2]; exact lv.2.2⟩)
theorem wp_callI {i na a : Nat} {As : List Value} {stk : List Value} (f : CI y.1.cls i y' na) (d : St y pc (.invokespecial i) 3 n) (lv : Lev r r' ct) (hn : As.length = na) (hst : stk = As.reverse ++ .ref a :: st) (hcat : (st.map fun v => v.category).sum ≤ 8) (h : CT κ r' y' (.ref a :: As) w (fun v w' => WP κ r y n L (psh v st) w' (ct.1 + r'.2.1, ct.2 + r'.2.2) Q)) : WP κ r y pc L stk w ct Q := by
  obtain ⟨hd, rfl⟩ := d
  intro p e R s m args below meth c H locs ls C hl hH hS
  have hR := C.2.2.2.2.2.1
  have hcb := wp_callB C f.1 f.2.2.2.2 lv
  unfold CT at h
  rw [f.2.2.2.1] at hcb h
  exact wp_back C hl hS (va_runI ⟨C.1, C.2.1, C.2.2.1, C.2.2.2.1, C.2.2.2.2.1⟩ h ⟨hcb, f.2.2.1, C.2.2.2.2.1 _ f.2.1⟩ (wp_preS C hH) rfl hn hl.1 hst (lv_room hcat) hd ⟨by rw [hR.2.2.1]; exact lv.2.1, by rw [hR.2.2.2]; exact lv.2.2⟩)
theorem wp_callIN {i na a : Nat} {As : List Value} {stk : List Value} (f : NI y.1.cls i y' na) (d : St y pc (.invokespecial i) 3 n) (lv : Lev r r' ct) (hn : As.length = na) (hst : stk = As.reverse ++ .ref a :: st) (hcat : (st.map fun v => v.category).sum ≤ 8) (h : CT κ r' y' (.ref a :: As) w (fun v w' => WP κ r y n L (psh v st) w' (ct.1 + r'.2.1, ct.2 + r'.2.2) Q)) : WP κ r y pc L stk w ct Q := by
  obtain ⟨hd, rfl⟩ := d
  intro p e R s m args below meth c H locs ls C hl hH hS
  have hR := C.2.2.2.2.2.1
  have hcb := wp_callN C f.1 f.2.2.2.2 lv
  unfold CT at h
  rw [f.2.2.2.1] at hcb h
  exact wp_back C hl hS (va_runIN ⟨C.1, C.2.1, C.2.2.1, C.2.2.2.1, C.2.2.2.2.1⟩ h ⟨hcb, f.2.2.1, C.2.2.2.2.1 _ f.2.1⟩ (wp_preS C hH) rfl hn hl.1 hst (lv_room hcat) hd ⟨by rw [hR.2.2.1]; exact lv.2.1, by rw [hR.2.2.2]; exact lv.2.2⟩)
/-- a call on an object of the world -/
theorem wp_callV {i na k c : Nat} {As : List Value} {stk : List Value} (f : CV y.1.cls i y' na) (d : St y pc (.invokevirtual i) 3 n) (hk : kd k = c) (hc : (vwCl[c]?).map (fun q => q.1) = some y'.1.cls) (lv : Lev r r' ct) (hn : As.length = na) (hst : stk = As.reverse ++ rv κ k :: st) (hcat : (st.map fun v => v.category).sum ≤ 8) (h : CT κ r' y' (rv κ k :: As) (wM κ M) (fun v w' => WP κ r y n L (psh v st) w' (ct.1 + r'.2.1, ct.2 + r'.2.2) Q)) : WP κ r y pc L stk (wM κ M) ct Q := by
  obtain ⟨hd, rfl⟩ := d
  intro p e R s m args below meth cd H locs ls C hl hH hS
  have hR := C.2.2.2.2.2.1
  have hrc : ∃ cellB : Cell, H[ka κ k]? = some cellB ∧ cellB.vm.isStatics = false ∧ s.vm.findClass y'.1.cls = some cellB.cls := by
    cases hq : vwCl[c]? with
    | none => rw [hq] at hc; cases hc
    | some q =>
      rw [hq] at hc
      have hq1 : q.1 = y'.1.cls := Option.some.inj hc
      rw [← hq1]
      have h8 := (cl_ok hq).1
      exact va_recv C.2.2.2.2.2.2.2.2.2.1.1 hH.1 hq (q0 := k) (by rw [wM_at κ M (kd_lt hk (by omega)), ceq_obj hk h8])
  have hp := wp_preS (As := rv κ k :: As) C hH
  exact wp_back C hl hS (va_runV (C := y'.1.cls) ⟨C.1, C.2.1, C.2.2.1, C.2.2.2.1, C.2.2.2.2.1⟩ h ⟨wp_callB C f.1 f.2.2.2 lv, C.2.2.2.2.1 _ f.2.1, C.2.2.2.2.1 _ f.2.2.1⟩ ⟨hp.1, hrc, hp.2⟩ rfl hn hl.1 hst (lv_room hcat) hd ⟨by rw [hR.2.2.1]; exact lv.2.1, by rw [hR.2.2.2]; exact lv.2.2⟩)
end WPC
