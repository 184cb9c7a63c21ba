/-! image, restore, type -/
def SMV (M M' : MM) (k k' : Nat) : Prop := (∀ i, i < 5 → M'.1 (k' + 1) i = M.1 (k + 1) i) ∧ (∀ i, i < 5 → M'.1 (k' + 2) i = M.1 (k + 2) i) ∧ (∀ i, i < 5 → M'.1 (k' + 3) i = M.1 (k + 3) i) ∧ (∀ i, i < 6 → M'.1 (k' + 4) i = M.1 (k + 4) i) ∧ M'.1 k' 4 = M.1 k 4 ∧ M'.1 k' 5 = M.1 k 5
theorem smv_cg {M M' M0 M1 : MM} {k k' : Nat} (h : SMV M M' k k') (e : ∀ a, a ≤ 4 → M0.1 (k + a) = M.1 (k + a)) (e' : ∀ a, a ≤ 4 → M1.1 (k' + a) = M'.1 (k' + a)) : SMV M0 M1 k k' := by
  obtain ⟨h1, h2, h3, h4, h5, h6⟩ := h
  have e0 : M0.1 k = M.1 k := e 0 (by omega)
  have e0' : M1.1 k' = M'.1 k' := e' 0 (by omega)
  refine ⟨fun i hi => ?_, fun i hi => ?_, fun i hi => ?_, fun i hi => ?_, ?_, ?_⟩
  · rw [e 1 (by omega), e' 1 (by omega)]; exact h1 i hi
  · rw [e 2 (by omega), e' 2 (by omega)]; exact h2 i hi
  · rw [e 3 (by omega), e' 3 (by omega)]; exact h3 i hi
  · rw [e 4 (by omega), e' 4 (by omega)]; exact h4 i hi
  · rw [e0, e0']; exact h5
  · rw [e0, e0']; exact h6
theorem sg_smv {M M' : MM} {k k' g b b' : Nat} {X X' : Nat → Int32} {wk wk' : Int32} (h6 : g ≤ 6) (s : SMV M M' k k') (eX : ∀ j, j < 22 → X' (b' + j) = X (b + j)) (ew : wk' = wk) (h : SG M k g X b wk) : SG M' k' g X' b' wk' :=
  sg_mv h6 s.1 s.2.1 s.2.2.1 s.2.2.2.1 s.2.2.2.2.1 s.2.2.2.2.2 eX ew h
theorem sr_mv {M M' : MM} {c c' g y o u : Nat} {F F' : Nat → Int32} (h : SR M c F g y o u) (e2 : M'.1 c' 2 = M.1 c 2) (e3 : M'.1 c' 3 = M.1 c 3) (e4 : M'.1 c' 4 = M.1 c 4)
    (k1 : ∀ i, i < 6 → M'.1 (c' + 1) i = M.1 (c + 1) i) (k2 : ∀ i, i < 6 → M'.1 (c' + 2) i = M.1 (c + 2) i) (s : SMV M M' (c + 3) (c' + 3)) (q1 : M'.1 (c' + 8) 1 = M.1 (c + 8) 1) (q2 : M'.1 (c' + 8) 2 = M.1 (c + 8) 2)
    (st : ∀ j, j < 8 → SMV M M' (c + 10 + 5 * j) (c' + 10 + 5 * j)) (eF : ∀ j, j < 223 → F' j = F j) : SR M' c' F' g y o u := by
  obtain ⟨⟨h6, y2, y52, o8, u8⟩, ⟨a1, a2, a3, a4, a5, a6⟩, hk, hs, ⟨p1, p2, p3⟩, hu⟩ := h
  refine ⟨⟨h6, y2, y52, o8, u8⟩, ⟨?_, ?_, ?_, ?_, ?_, ?_⟩, fun i hi => ?_, ?_, ⟨?_, ?_, ?_⟩, fun i hi => ?_⟩
  · rw [e2]; exact a1
  · rw [eF 0 (by omega)]; exact a2
  · rw [e3]; exact a3
  · rw [eF 1 (by omega)]; exact a4
  · rw [e4, eF 2 (by omega)]; exact a5
  · rw [eF 2 (by omega)]; exact a6
  · rw [k1 i (by omega), k2 i (by omega), eF (4 + i) (by omega), eF (10 + i) (by omega)]
    exact hk i hi
  · exact sg_smv h6 s (fun j hj => eF _ (by omega)) (eF 3 (by omega)) hs
  · rw [q1]; exact p1
  · rw [q2]; exact p2
  · rw [eF 38 (by omega)]; exact p3
  · exact sg_smv h6 (st _ (Nat.mod_lt _ (by decide))) (fun j hj => eF _ (by omega)) (eF _ (by omega)) (hu i hi)
theorem pcp59_out {M : MM} {a : Nat} (h : a < 61 ∨ 100 < a) : ∀ j, j ≤ 8 → (pcp59 M j).1 a = M.1 a
  | 0, _ => rfl
  | j + 1, hj => by
    rw [pcp59, bec_out (by omega)]
    exact pcp59_out h j (by omega)
theorem pcp59_2 {M : MM} : ∀ j, (pcp59 M j).2 = M.2
  | 0 => rfl
  | j + 1 => pcp59_2 j
theorem pcp59_in {M : MM} : ∀ j, j ≤ 8 → ∀ i, i < j → SMV M (pcp59 M j) (11 + 5 * i) (61 + 5 * i)
  | 0, _, i, hi => absurd hi (by omega)
  | j + 1, hj, i, hi => by
    rw [pcp59]
    by_cases e : i = j
    · subst e
      exact smv_cg (bec_in (M := pcp59 M i) (k := 61 + 5 * i) (q := 11 + 5 * i) (by omega)) (fun a ha => (pcp59_out (by omega) i (by omega)).symm) (fun a ha => rfl)
    · exact smv_cg (pcp59_in j (by omega) i (by omega)) (fun a ha => rfl) (fun a ha => bec_out (by omega))
theorem sbc51_out {M : MM} {a : Nat} (h : a < 51 ∨ 100 < a) : (sbc51 M).1 a = M.1 a := by
  unfold sbc51 pbc59
  dsimp only
  rw [sI_out (by omega), sI_out (by omega), pcp59_out (by omega) 8 (by omega), bec_out (by omega), sI_out (by omega), sI_out (by omega), sI_out (by omega), rI_ne _ _ (by omega), rI_ne _ _ (by omega)]
theorem sbc51_2 {M : MM} : (sbc51 M).2 = M.2 := by
  unfold sbc51 pbc59
  dsimp only
  exact pcp59_2 8
theorem sr_sbc51 {M : MM} {F F' : Nat → Int32} {g y o u : Nat} (eF : ∀ j, j < 223 → F' j = F j) (h : SR M 1 F g y o u) : SR (sbc51 M) 51 F' g y o u := by
  unfold sbc51 pbc59
  dsimp only
  generalize hM1 : rI M 52 (va_cpy (M.1 2) (M.1 52) 0 0 6) = M1
  generalize hM2 : rI M1 53 (va_cpy (M1.1 3) (M1.1 53) 0 0 6) = M2
  generalize hM3 : sI M2 51 2 (M2.1 1 2) = M3
  generalize hM4 : sI M3 51 3 (M3.1 1 3) = M4
  generalize hM5 : sI M4 51 4 (M4.1 1 4) = M5
  have o1 : ∀ a, a ≠ 52 → M1.1 a = M.1 a := fun a ha => by rw [← hM1, rI_ne _ _ ha]
  have o2 : ∀ a, a ≠ 53 → M2.1 a = M1.1 a := fun a ha => by rw [← hM2, rI_ne _ _ ha]
  have o3 : ∀ a, a ≠ 51 → M3.1 a = M2.1 a := fun a ha => by rw [← hM3, sI_out ha]
  have o4 : ∀ a, a ≠ 51 → M4.1 a = M3.1 a := fun a ha => by rw [← hM4, sI_out ha]
  have o5 : ∀ a, a ≠ 51 → M5.1 a = M4.1 a := fun a ha => by rw [← hM5, sI_out ha]
  have o15 : ∀ a, a ≠ 51 → a ≠ 52 → a ≠ 53 → M5.1 a = M.1 a := fun a h1 h2 h3 => by rw [o5 a h1, o4 a h1, o3 a h1, o2 a h3, o1 a h2]
  have q : ∀ a, a < 61 ∨ 100 < a → a ≠ 59 → (sI (sI (pcp59 (bec M5 54 4) 8) 59 1 ((pcp59 (bec M5 54 4) 8).1 9 1)) 59 2 ((sI (pcp59 (bec M5 54 4) 8) 59 1 ((pcp59 (bec M5 54 4) 8).1 9 1)).1 9 2)).1 a = (bec M5 54 4).1 a := fun a h1 h2 => by rw [sI_out h2, sI_out h2, pcp59_out h1 8 (by omega)]
  refine sr_mv h ?_ ?_ ?_ (fun i hi => ?_) (fun i hi => ?_) ?_ ?_ ?_ (fun j hj => ?_) eF
  · rw [q _ (by omega) (by omega), bec_out (by omega), ← hM5, sI_oth (by decide), ← hM4, sI_oth (by decide), ← hM3, sI_same, o2 _ (by omega), o1 _ (by omega)]
  · rw [q _ (by omega) (by omega), bec_out (by omega), ← hM5, sI_oth (by decide), ← hM4, sI_same, o3 _ (by omega), o2 _ (by omega), o1 _ (by omega)]
  · rw [q _ (by omega) (by omega), bec_out (by omega), ← hM5, sI_same, o4 _ (by omega), o3 _ (by omega), o2 _ (by omega), o1 _ (by omega)]
  · rw [q _ (by omega) (by omega), bec_out (by omega), o5 _ (by omega), o4 _ (by omega), o3 _ (by omega), o2 _ (by omega), ← hM1, show (51 : Nat) + 1 = 52 from rfl, rI_at, pk_cpy_in (by omega) (by omega)]
    simp
  · rw [q _ (by omega) (by omega), bec_out (by omega), o5 _ (by omega), o4 _ (by omega), o3 _ (by omega), ← hM2, show (51 : Nat) + 2 = 53 from rfl, rI_at, pk_cpy_in (by omega) (by omega), o1 _ (by omega)]
    simp
  · exact smv_cg (bec_in (M := M5) (k := 54) (q := 4) (by omega)) (fun a ha => (o15 _ (by omega) (by omega) (by omega)).symm) (fun a ha => q _ (by omega) (by omega))
  · show (sI (sI _ 59 1 _) 59 2 _).1 59 1 = _
    rw [sI_oth (by decide), sI_same, pcp59_out (by omega) 8 (by omega), bec_out (by omega), o15 _ (by omega) (by omega) (by omega)]
  · show (sI (sI _ 59 1 _) 59 2 _).1 59 2 = _
    rw [sI_same, sI_out (by omega), pcp59_out (by omega) 8 (by omega), bec_out (by omega), o15 _ (by omega) (by omega) (by omega)]
  · exact smv_cg (pcp59_in (M := bec M5 54 4) 8 (by omega) j hj) (fun a ha => by rw [bec_out (by omega), o15 _ (by omega) (by omega) (by omega)]) (fun a ha => by rw [sI_out (by omega), sI_out (by omega)])
theorem pcp9_out {M : MM} {a : Nat} (h : a < 11 ∨ 50 < a) : ∀ j, j ≤ 8 → (pcp9 M j).1 a = M.1 a
  | 0, _ => rfl
  | j + 1, hj => by
    rw [pcp9, bec_out (by omega)]
    exact pcp9_out h j (by omega)
theorem pcp9_2 {M : MM} : ∀ j, (pcp9 M j).2 = M.2
  | 0 => rfl
  | j + 1 => pcp9_2 j
theorem pcp9_in {M : MM} : ∀ j, j ≤ 8 → ∀ i, i < j → SMV M (pcp9 M j) (61 + 5 * i) (11 + 5 * i)
  | 0, _, i, hi => absurd hi (by omega)
  | j + 1, hj, i, hi => by
    rw [pcp9]
    by_cases e : i = j
    · subst e
      exact smv_cg (bec_in (M := pcp9 M i) (k := 11 + 5 * i) (q := 61 + 5 * i) (by omega)) (fun a ha => (pcp9_out (by omega) i (by omega)).symm) (fun a ha => rfl)
    · exact smv_cg (pcp9_in j (by omega) i (by omega)) (fun a ha => rfl) (fun a ha => bec_out (by omega))
theorem sbc1_out {M : MM} {a : Nat} (h : a < 1 ∨ 50 < a) : (sbc1 M).1 a = M.1 a := by
  unfold sbc1 pbc9
  dsimp only
  rw [sI_out (by omega), sI_out (by omega), pcp9_out (by omega) 8 (by omega), bec_out (by omega), sI_out (by omega), sI_out (by omega), sI_out (by omega), rI_ne _ _ (by omega), rI_ne _ _ (by omega)]
theorem sbc1_2 {M : MM} : (sbc1 M).2 = M.2 := by
  unfold sbc1 pbc9
  dsimp only
  exact pcp9_2 8
theorem sr_sbc1 {M : MM} {F F' : Nat → Int32} {g y o u : Nat} (eF : ∀ j, j < 223 → F' j = F j) (h : SR M 51 F g y o u) : SR (sbc1 M) 1 F' g y o u := by
  unfold sbc1 pbc9
  dsimp only
  generalize hM1 : rI M 2 (va_cpy (M.1 52) (M.1 2) 0 0 6) = M1
  generalize hM2 : rI M1 3 (va_cpy (M1.1 53) (M1.1 3) 0 0 6) = M2
  generalize hM3 : sI M2 1 2 (M2.1 51 2) = M3
  generalize hM4 : sI M3 1 3 (M3.1 51 3) = M4
  generalize hM5 : sI M4 1 4 (M4.1 51 4) = M5
  have o1 : ∀ a, a ≠ 2 → M1.1 a = M.1 a := fun a ha => by rw [← hM1, rI_ne _ _ ha]
  have o2 : ∀ a, a ≠ 3 → M2.1 a = M1.1 a := fun a ha => by rw [← hM2, rI_ne _ _ ha]
  have o3 : ∀ a, a ≠ 1 → M3.1 a = M2.1 a := fun a ha => by rw [← hM3, sI_out ha]
  have o4 : ∀ a, a ≠ 1 → M4.1 a = M3.1 a := fun a ha => by rw [← hM4, sI_out ha]
  have o5 : ∀ a, a ≠ 1 → M5.1 a = M4.1 a := fun a ha => by rw [← hM5, sI_out ha]
  have o15 : ∀ a, a ≠ 1 → a ≠ 2 → a ≠ 3 → M5.1 a = M.1 a := fun a h1 h2 h3 => by rw [o5 a h1, o4 a h1, o3 a h1, o2 a h3, o1 a h2]
  have q : ∀ a, a < 11 ∨ 50 < a → a ≠ 9 → (sI (sI (pcp9 (bec M5 4 54) 8) 9 1 ((pcp9 (bec M5 4 54) 8).1 59 1)) 9 2 ((sI (pcp9 (bec M5 4 54) 8) 9 1 ((pcp9 (bec M5 4 54) 8).1 59 1)).1 59 2)).1 a = (bec M5 4 54).1 a := fun a h1 h2 => by rw [sI_out h2, sI_out h2, pcp9_out h1 8 (by omega)]
  refine sr_mv h ?_ ?_ ?_ (fun i hi => ?_) (fun i hi => ?_) ?_ ?_ ?_ (fun j hj => ?_) eF
  · rw [q _ (by omega) (by omega), bec_out (by omega), ← hM5, sI_oth (by decide), ← hM4, sI_oth (by decide), ← hM3, sI_same, o2 _ (by omega), o1 _ (by omega)]
  · rw [q _ (by omega) (by omega), bec_out (by omega), ← hM5, sI_oth (by decide), ← hM4, sI_same, o3 _ (by omega), o2 _ (by omega), o1 _ (by omega)]
  · rw [q _ (by omega) (by omega), bec_out (by omega), ← hM5, sI_same, o4 _ (by omega), o3 _ (by omega), o2 _ (by omega), o1 _ (by omega)]
  · rw [q _ (by omega) (by omega), bec_out (by omega), o5 _ (by omega), o4 _ (by omega), o3 _ (by omega), o2 _ (by omega), ← hM1, show (1 : Nat) + 1 = 2 from rfl, rI_at, pk_cpy_in (by omega) (by omega)]
    simp
  · rw [q _ (by omega) (by omega), bec_out (by omega), o5 _ (by omega), o4 _ (by omega), o3 _ (by omega), ← hM2, show (1 : Nat) + 2 = 3 from rfl, rI_at, pk_cpy_in (by omega) (by omega), o1 _ (by omega)]
    simp
  · exact smv_cg (bec_in (M := M5) (k := 4) (q := 54) (by omega)) (fun a ha => (o15 _ (by omega) (by omega) (by omega)).symm) (fun a ha => q _ (by omega) (by omega))
  · show (sI (sI _ 9 1 _) 9 2 _).1 9 1 = _
    rw [sI_oth (by decide), sI_same, pcp9_out (by omega) 8 (by omega), bec_out (by omega), o15 _ (by omega) (by omega) (by omega)]
  · show (sI (sI _ 9 1 _) 9 2 _).1 9 2 = _
    rw [sI_same, sI_out (by omega), pcp9_out (by omega) 8 (by omega), bec_out (by omega), o15 _ (by omega) (by omega) (by omega)]
  · exact smv_cg (pcp9_in (M := bec M5 4 54) 8 (by omega) j hj) (fun a ha => by rw [bec_out (by omega), o15 _ (by omega) (by omega) (by omega)]) (fun a ha => by rw [sI_out (by omega), sI_out (by omega)])
theorem sim_image {M : MM} {g y o u L : Nat} (h : Rel M g y o u L) : REL (sI (rI (sIm M) 124 (cpD ((sIm M).1 121) ((sIm M).1 124) 0 0 223)) 120 4 1) := by
  obtain ⟨hs, ht, hh, hi⟩ := h
  have e : ∀ a, a ≠ 0 → a < 51 ∨ 100 < a → (sIm M).1 a = M.1 a := fun a h0 h1 => by rw [sIm, sI_out h0, sbc51_out (by omega)]
  have e3 : ∀ a, a ≠ 0 → a ≠ 120 → a ≠ 124 → a < 51 ∨ 100 < a → (sI (rI (sIm M) 124 (cpD ((sIm M).1 121) ((sIm M).1 124) 0 0 223)) 120 4 1).1 a = M.1 a := fun a h0 h1 h2 h3 => by rw [sI_out h1, rI_ne _ _ h2, e a h0 h3]
  refine ⟨g, y, o, u, L, ?_, ?_, ?_, ?_, ?_⟩
  · rw [e3 121 (by decide) (by decide) (by decide) (by decide)]
    exact sr_fr (fun a h1 h2 => e3 a (by omega) (by omega) (by omega) (by omega)) (fun _ _ => rfl) hs
  · refine tpr_fr (by rw [e3 _ (by decide) (by decide) (by decide) (by decide)]) (e3 _ (by decide) (by decide) (by decide) (by decide)) ?_ (e3 _ (by decide) (by decide) (by decide) (by decide)) ht
    rw [sI_oth (by decide), rI_ne _ _ (by decide), e _ (by decide) (by decide)]
  · exact fun s hs4 => shr_fr hs4 (fun a h1 h2 => e3 a (by omega) (by omega) (by omega) (by omega)) (e3 _ (by decide) (by decide) (by decide) (by decide)) (e3 _ (by decide) (by decide) (by decide) (by decide)) sbc51_2 (hh s hs4)
  · rw [sI_same, sI_out (by decide), rI_ne _ _ (by decide), sIm, sI_same]
  · intro _
    refine ⟨g, y, o, u, ?_⟩
    rw [sI_out (show (124 : Nat) ≠ 120 by decide), rI_at, e 121 (by decide) (by decide)]
    refine sr_fr (M := sbc51 M) (F := M.1 121) (fun a h1 h2 => ?_) (fun j hj => cpD_in _ _ 223 hj) (sr_sbc51 (fun _ _ => rfl) hs)
    rw [sI_out (by omega), rI_ne _ _ (by omega), sIm, sI_out (by omega)]
theorem sim_restore {M : MM} {g y o u L : Nat} (h : Rel M g y o u L) :
    (sRs M).2 = (tRs (sRs M).1 ((sRs M).1.1 121)).2 ∧ REL (rI (sRs M).1 121 (tRs (sRs M).1 ((sRs M).1.1 121)).1) := by
  obtain ⟨hi1, hi2⟩ := h.2.2.2
  by_cases h1 : M.1 0 2 = 0
  · have h2 := hi1.mp h1
    rw [sRs, if_pos h1, tRs, if_neg (fun q => q h2)]
    exact ⟨rfl, rel_no h⟩
  · have h2 : ¬ (sbc1 M).1 120 4 = 0 := by
      rw [sbc1_out (by decide)]
      exact fun q => h1 (hi1.mpr q)
    rw [sRs, if_neg h1, tRs, if_pos h2]
    obtain ⟨g', y', o', u', hk⟩ := hi2 h1
    refine ⟨rfl, rel_do h (fun a ha => sbc1_out (by omega)) sbc1_2 (sr_sbc1 (F := M.1 124) (fun j hj => ?_) hk)⟩
    exact (cpD_in _ _ 223 hj).trans (by rw [sbc1_out (by decide)])
