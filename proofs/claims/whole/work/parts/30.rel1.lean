/-! THE RELATION of the two objects -/
def bd (x : Int32) (n : Nat) : Prop := ∃ z : Nat, z ≤ n ∧ x = nI z
def AP (a h : Int32) : Prop := (h = -99 ∧ a = 0) ∨ (∃ z : Nat, z ≤ 9999 ∧ h = nI z ∧ a = nI (z + 3))
def SG (M : MM) (k g : Nat) (X : Nat → Int32) (b : Nat) (wk : Int32) : Prop :=
  (∀ i, i + 1 < g → M.1 (k + 1) i = X (b + (6 + i)) ∧ M.1 (k + 2) i = X (b + (11 + i)) ∧ AP (M.1 (k + 3) i) (X (b + (16 + i)))) ∧
  (∀ i, i < g → M.1 (k + 4) i = X (b + i)) ∧
  (∀ i, i < 5 → g ≤ i + 1 → X (b + (6 + i)) = 0 ∧ X (b + (11 + i)) = 0 ∧ X (b + (16 + i)) = -99) ∧
  (∀ i, i < 6 → g ≤ i → X (b + i) = 0) ∧
  (∀ i, i < 5 → bd (X (b + (6 + i))) 19 ∧ bd (X (b + (11 + i))) 99) ∧
  M.1 k 4 = wk ∧ M.1 k 5 = X (b + 21) ∧ bd wk 9999 ∧ 0 ≤ X (b + 21)
def SR (M : MM) (c : Nat) (F : Nat → Int32) (g y o u : Nat) : Prop :=
  (g ≤ 6 ∧ 2 ≤ y ∧ y ≤ 52 ∧ o < 8 ∧ u ≤ 8) ∧
  (M.1 c 2 = nI g ∧ F 0 = nI g ∧ M.1 c 3 = nI y ∧ F 1 = nI y ∧ M.1 c 4 = F 2 ∧ bd (F 2) 9) ∧
  (∀ i, i < g → M.1 (c + 1) i = F (4 + i) ∧ M.1 (c + 2) i = F (10 + i) ∧ bd (F (4 + i)) 4 ∧ bd (F (10 + i)) 9) ∧
  SG M (c + 3) g F 16 (F 3) ∧
  (M.1 (c + 8) 1 = nI o ∧ M.1 (c + 8) 2 = nI u ∧ F 38 = nI u) ∧
  (∀ i, i < u → SG M (c + 10 + 5 * ((o + i) % 8)) g F (39 + 23 * i) (F (39 + 23 * i + 22)))
theorem sg_mv {M M' : MM} {k k' g b b' : Nat} {X X' : Nat → Int32} {wk wk' : Int32} (h6 : g ≤ 6)
    (e1 : ∀ i, i < 5 → M'.1 (k' + 1) i = M.1 (k + 1) i) (e2 : ∀ i, i < 5 → M'.1 (k' + 2) i = M.1 (k + 2) i)
    (e3 : ∀ i, i < 5 → M'.1 (k' + 3) i = M.1 (k + 3) i) (e4 : ∀ i, i < 6 → M'.1 (k' + 4) i = M.1 (k + 4) i)
    (e5 : M'.1 k' 4 = M.1 k 4) (e6 : M'.1 k' 5 = M.1 k 5) (eX : ∀ j, j < 22 → X' (b' + j) = X (b + j)) (ew : wk' = wk)
    (h : SG M k g X b wk) : SG M' k' g X' b' wk' := by
  obtain ⟨h1, h2, h3, h4, h5, h7, h8, h9, h10⟩ := h
  subst ew
  refine ⟨fun i hi => ?_, fun i hi => ?_, fun i hi hg => ?_, fun i hi hg => ?_, fun i hi => ?_, ?_, ?_, h9, ?_⟩
  · rw [e1 i (by omega), e2 i (by omega), e3 i (by omega), eX (6 + i) (by omega), eX (11 + i) (by omega), eX (16 + i) (by omega)]
    exact h1 i hi
  · rw [e4 i (by omega), eX i (by omega)]
    exact h2 i hi
  · rw [eX (6 + i) (by omega), eX (11 + i) (by omega), eX (16 + i) (by omega)]
    exact h3 i hi hg
  · rw [eX i (by omega)]
    exact h4 i hi hg
  · rw [eX (6 + i) (by omega), eX (11 + i) (by omega)]
    exact h5 i hi
  · rw [e5]; exact h7
  · rw [e6, eX 21 (by omega)]; exact h8
  · rw [eX 21 (by omega)]; exact h10
/-- a stage whose cells and whose row are left alone -/
theorem sg_fr {M M' : MM} {k g b : Nat} {X X' : Nat → Int32} {wk wk' : Int32} (h6 : g ≤ 6) (e : ∀ a, a ≤ 4 → M'.1 (k + a) = M.1 (k + a)) (eX : ∀ j, j < 22 → X' (b + j) = X (b + j)) (ew : wk' = wk)
    (h : SG M k g X b wk) : SG M' k g X' b wk' :=
  sg_mv h6 (fun i _ => by rw [e 1 (by omega)]) (fun i _ => by rw [e 2 (by omega)]) (fun i _ => by rw [e 3 (by omega)]) (fun i _ => by rw [e 4 (by omega)]) (by rw [show M'.1 k = M.1 k from e 0 (by omega)]) (by rw [show M'.1 k = M.1 k from e 0 (by omega)]) eX ew h
/-- a street whose cells and whose row are left alone -/
theorem sr_fr {M M' : MM} {c g y o u : Nat} {F F' : Nat → Int32} (e : ∀ a, c ≤ a → a < c + 50 → M'.1 a = M.1 a) (eF : ∀ j, j < 223 → F' j = F j) (h : SR M c F g y o u) : SR M' c F' g y o u := by
  obtain ⟨⟨h6, y2, y52, o8, u8⟩, ⟨a1, a2, a3, a4, a5, a6⟩, hk, hs, ⟨p1, p2, p3⟩, hu⟩ := h
  refine ⟨⟨h6, y2, y52, o8, u8⟩, ⟨?_, ?_, ?_, ?_, ?_, ?_⟩, fun i hi => ?_, ?_, ⟨?_, ?_, ?_⟩, fun i hi => ?_⟩
  · rw [e c (by omega) (by omega)]; exact a1
  · rw [eF 0 (by omega)]; exact a2
  · rw [e c (by omega) (by omega)]; exact a3
  · rw [eF 1 (by omega)]; exact a4
  · rw [e c (by omega) (by omega), eF 2 (by omega)]; exact a5
  · rw [eF 2 (by omega)]; exact a6
  · rw [e (c + 1) (by omega) (by omega), e (c + 2) (by omega) (by omega), eF (4 + i) (by omega), eF (10 + i) (by omega)]
    exact hk i hi
  · exact sg_fr h6 (fun a ha => e _ (by omega) (by omega)) (fun j hj => eF _ (by omega)) (eF 3 (by omega)) hs
  · rw [e (c + 8) (by omega) (by omega)]; exact p1
  · rw [e (c + 8) (by omega) (by omega)]; exact p2
  · rw [eF 38 (by omega)]; exact p3
  · have hm : (o + i) % 8 < 8 := Nat.mod_lt _ (by decide)
    exact sg_fr h6 (fun a ha => e _ (by omega) (by omega)) (fun j hj => eF _ (by omega)) (eF _ (by omega)) (hu i hi)
/-- the cells after a stage is copied -/
theorem bec_in {M : MM} {k q : Nat} (hd : k + 4 < q ∨ q + 4 < k) :
    (∀ i, i < 5 → (bec M k q).1 (k + 1) i = M.1 (q + 1) i) ∧ (∀ i, i < 5 → (bec M k q).1 (k + 2) i = M.1 (q + 2) i) ∧ (∀ i, i < 5 → (bec M k q).1 (k + 3) i = M.1 (q + 3) i) ∧ (∀ i, i < 6 → (bec M k q).1 (k + 4) i = M.1 (q + 4) i) ∧ (bec M k q).1 k 4 = M.1 q 4 ∧ (bec M k q).1 k 5 = M.1 q 5 := by
  refine ⟨fun i hi => ?_, fun i hi => ?_, fun i hi => ?_, fun i hi => ?_, ?_, ?_⟩
  · have c1 : k + 1 ≠ k := by omega
    have c2 : k + 1 ≠ k + 4 := by omega
    have c3 : k + 1 ≠ k + 3 := by omega
    have c4 : k + 1 ≠ k + 2 := by omega
    simp only [bec, sI, rI, c1, c2, c3, c4, if_false, if_true]
    rw [pk_cpy_in (by omega) (by omega)]
    simp
  · have c1 : k + 2 ≠ k := by omega
    have c2 : k + 2 ≠ k + 4 := by omega
    have c3 : k + 2 ≠ k + 3 := by omega
    have d1 : q + 2 ≠ k + 1 := by omega
    simp only [bec, sI, rI, c1, c2, c3, d1, if_false, if_true]
    rw [pk_cpy_in (by omega) (by omega)]
    simp
  · have c1 : k + 3 ≠ k := by omega
    have c2 : k + 3 ≠ k + 4 := by omega
    have d1 : q + 3 ≠ k + 1 := by omega
    have d2 : q + 3 ≠ k + 2 := by omega
    simp only [bec, sI, rI, c1, c2, d1, d2, if_false, if_true]
    rw [pk_cpy_in (by omega) (by omega)]
    simp
  · have c1 : k + 4 ≠ k := by omega
    have d1 : q + 4 ≠ k + 1 := by omega
    have d2 : q + 4 ≠ k + 2 := by omega
    have d3 : q + 4 ≠ k + 3 := by omega
    simp only [bec, sI, rI, c1, d1, d2, d3, if_false, if_true]
    rw [pk_cpy_in (by omega) (by omega)]
    simp
  · have d0 : q ≠ k := by omega
    have d1 : q ≠ k + 1 := by omega
    have d2 : q ≠ k + 2 := by omega
    have d3 : q ≠ k + 3 := by omega
    have d4 : q ≠ k + 4 := by omega
    simp [bec, sI, rI, upd, d0, d1, d2, d3, d4]
  · have d0 : q ≠ k := by omega
    have d1 : q ≠ k + 1 := by omega
    have d2 : q ≠ k + 2 := by omega
    have d3 : q ≠ k + 3 := by omega
    have d4 : q ≠ k + 4 := by omega
    simp [bec, sI, rI, upd, d0, d1, d2, d3, d4]
theorem bec_out {M : MM} {k q a : Nat} (h : a < k ∨ k + 4 < a) : (bec M k q).1 a = M.1 a := by
  have c0 : a ≠ k := by omega
  have c1 : a ≠ k + 1 := by omega
  have c2 : a ≠ k + 2 := by omega
  have c3 : a ≠ k + 3 := by omega
  have c4 : a ≠ k + 4 := by omega
  simp only [bec, sI, rI, c0, c1, c2, c3, c4, if_false]
theorem sI_out {M : MM} {k j a : Nat} {v : Int32} (h : a ≠ k) : (sI M k j v).1 a = M.1 a := by simp only [sI, h, if_false]
theorem sI_oth {M : MM} {k j a : Nat} {v : Int32} (h : a ≠ j) : (sI M k j v).1 k a = M.1 k a := by simp [sI, upd, h]
