/-! the whole relation, and the first calls -/
def ShR (M : MM) (s : Nat) : Prop := (∃ len, M.1 (112 + 2 * s) 3 = nI len ∧ len ≤ 24) ∧ ((M.1 (112 + 2 * s) 1 = 0 ∧ M.1 127 s = -1) ∨ (¬ M.1 (112 + 2 * s) 1 = 0 ∧ M.1 127 s = M.1 (112 + 2 * s) 3 ∧ M.1 126 s = M.1 (112 + 2 * s) 2 ∧ ∀ i, i < 24 → M.2 (112 + 2 * s + 1) i = M.2 128 (24 * s + i)))
def TpR (M : MM) (L : Nat) : Prop := L ≤ 60 ∧ M.1 106 1 = nI L ∧ M.1 120 6 = nI L ∧ ∀ i, i < L → M.1 107 i = M.1 125 i ∧ ∃ z : Nat, 32 ≤ z ∧ z ≤ 126 ∧ M.1 125 i = nI z
def ImR (M : MM) : Prop := (M.1 0 2 = 0 ↔ M.1 120 4 = 0) ∧ (¬ M.1 0 2 = 0 → ∃ g y o u, SR M 51 (M.1 124) g y o u)
def Rel (M : MM) (g y o u L : Nat) : Prop := SR M 1 (M.1 121) g y o u ∧ TpR M L ∧ (∀ s, s < 4 → ShR M s) ∧ ImR M
def REL (M : MM) : Prop := ∃ g y o u L, Rel M g y o u L
theorem shr_fr {M M' : MM} {s : Nat} (hs : s < 4) (e : ∀ a, 112 ≤ a → a < 120 → M'.1 a = M.1 a) (e6 : M'.1 126 = M.1 126) (e7 : M'.1 127 = M.1 127) (e2 : M'.2 = M.2) (h : ShR M s) : ShR M' s := by
  unfold ShR
  rw [e (112 + 2 * s) (by omega) (by omega), e6, e7, e2]
  exact h
theorem tpr_fr {M M' : MM} {L : Nat} (e1 : M'.1 106 1 = M.1 106 1) (e2 : M'.1 107 = M.1 107) (e3 : M'.1 120 6 = M.1 120 6) (e4 : M'.1 125 = M.1 125) (h : TpR M L) : TpR M' L := by
  unfold TpR
  rw [e1, e2, e3, e4]
  exact h
theorem imr_fr {M M' : MM} (e0 : M'.1 0 2 = M.1 0 2) (e1 : M'.1 120 4 = M.1 120 4) (e : ∀ a, 51 ≤ a → a < 101 → M'.1 a = M.1 a) (e4 : M'.1 124 = M.1 124) (h : ImR M) : ImR M' := by
  unfold ImR
  rw [e0, e1, e4]
  refine ⟨h.1, fun hn => ?_⟩
  obtain ⟨g, y, o, u, hh⟩ := h.2 hn
  exact ⟨g, y, o, u, sr_fr (fun a h1 h2 => e a h1 (by omega)) (fun _ _ => rfl) hh⟩
/-- a deed done on the street of today -/
theorem rel_do {M M1 : MM} {F' : Nat → Int32} {g y o u L g' y' o' u' : Nat} (h : Rel M g y o u L) (e : ∀ a, a < 1 ∨ 50 < a → M1.1 a = M.1 a) (e2 : M1.2 = M.2) (hs : SR M1 1 F' g' y' o' u') : REL (rI M1 121 F') := by
  obtain ⟨_, ht, hh, hi⟩ := h
  have e3 : ∀ a, a ≠ 121 → a < 1 ∨ 50 < a → (rI M1 121 F').1 a = M.1 a := fun a h1 h2 => (rI_ne _ _ h1).trans (e a h2)
  refine ⟨g', y', o', u', L, ?_, ?_, ?_, ?_⟩
  · rw [rI_at]
    exact sr_fr (fun a h1 h2 => rI_ne _ _ (by omega)) (fun _ _ => rfl) hs
  · exact tpr_fr (by rw [e3 _ (by decide) (by decide)]) (e3 _ (by decide) (by decide)) (by rw [e3 _ (by decide) (by decide)]) (e3 _ (by decide) (by decide)) ht
  · exact fun s hs4 => shr_fr hs4 (fun a h1 h2 => e3 a (by omega) (by omega)) (e3 _ (by decide) (by decide)) (e3 _ (by decide) (by decide)) e2 (hh s hs4)
  · exact imr_fr (by rw [e3 _ (by decide) (by decide)]) (by rw [e3 _ (by decide) (by decide)]) (fun a h1 h2 => e3 a (by omega) (by omega)) (e3 _ (by decide) (by decide)) hi
/-- nothing done -/
theorem rel_no {M : MM} {g y o u L : Nat} (h : Rel M g y o u L) : REL (rI M 121 (M.1 121)) := by
  rw [rI_id]
  exact ⟨g, y, o, u, L, h⟩
theorem bd_of {x : Int32} {n : Nat} (hn : n < 1000) (h : ¬ wi x 0 (nI n) = 0) : bd x n := by
  obtain ⟨k, _, hk, e⟩ := rng_of (a := 0) (b := n) h (by omega) (by omega)
  exact ⟨k, hk, e⟩
theorem setl_out {M : MM} {g a : Nat} {kq no : Int32} (h : a < 1 ∨ 50 < a) : (setl g M kq no).1 a = M.1 a := by
  have c1 : a ≠ 1 := by omega
  have c2 : a ≠ 2 := by omega
  have c3 : a ≠ 3 := by omega
  have c5 : a ≠ 5 := by omega
  have c6 : a ≠ 6 := by omega
  have c7 : a ≠ 7 := by omega
  have c8 : a ≠ 8 := by omega
  have c9 : a ≠ 9 := by omega
  unfold setl fgt
  rw [sI_out c9, sI_out c9]
  split
  · rw [sI_out c1, sI_out c8, sI_out c3, sI_out c2]
  · rw [clr, sI_out c7, sI_out c6, sI_out c5, sI_out c1, sI_out c8, sI_out c3, sI_out c2]
theorem setl_2 {M : MM} {g : Nat} {kq no : Int32} : (setl g M kq no).2 = M.2 := by
  unfold setl
  split <;> rfl
theorem sr_setl {M : MM} {F : Nat → Int32} {g y o u : Nat} {kq no : Int32} (hg : g < 6) (hkq : bd kq 4) (hno : bd no 9) (h : SR M 1 F g y o u) : SR (setl g M kq no) 1 (tGdF F g kq no) (g + 1) y 0 0 := by
  obtain ⟨⟨h6, y2, y52, o8, u8⟩, ⟨a1, a2, a3, a4, a5, a6⟩, hk, ⟨s1, s2, s3, s4, s5, s7, s8, s9, s10⟩, ⟨p1, p2, p3⟩, hu⟩ := h
  have eF : ∀ a, a ≠ 38 → a ≠ 0 → a ≠ 10 + g → a ≠ 4 + g → tGdF F g kq no a = F a := fun a q1 q2 q3 q4 => by rw [tGdF, upd_o q1, upd_o q2, upd_o q3, upd_o q4]
  have e1 : ∀ a, a ≠ 2 → (setl g M kq no).1 1 a = M.1 1 a := by
    intro a ha
    by_cases h0 : g = 0
    · simp [setl, fgt, sI, upd, h0, ha]
    · simp [setl, fgt, clr, sI, upd, h0, ha]
  have e12 : (setl g M kq no).1 1 2 = nI (g + 1) := by
    by_cases h0 : g = 0
    · simp [setl, fgt, sI, upd, h0]; rfl
    · simp [setl, fgt, clr, sI, upd, h0, nI_1]
  have e4 : (setl g M kq no).1 4 = M.1 4 := by
    by_cases h0 : g = 0
    · simp [setl, fgt, sI, h0]
    · simp [setl, fgt, clr, sI, h0]
  have e2 : ∀ i, (setl g M kq no).1 2 i = if i = g then kq else M.1 2 i := by
    intro i
    by_cases h0 : g = 0
    · simp [setl, fgt, sI, upd, h0]
    · simp [setl, fgt, clr, sI, upd, h0]
  have e3 : ∀ i, (setl g M kq no).1 3 i = if i = g then no else M.1 3 i := by
    intro i
    by_cases h0 : g = 0
    · simp [setl, fgt, sI, upd, h0]
    · simp [setl, fgt, clr, sI, upd, h0]
  have e8 : ∀ i, (setl g M kq no).1 8 i = if i = g then 0 else M.1 8 i := by
    intro i
    by_cases h0 : g = 0
    · simp [setl, fgt, sI, upd, h0]
    · simp [setl, fgt, clr, sI, upd, h0]
  have e5 : ∀ k, (k = 5 ∨ k = 6 ∨ k = 7) → ∀ i, i < g → (setl g M kq no).1 k i = if i + 1 = g then 0 else M.1 k i := by
    intro k hk5 i hi
    have h0 : ¬ g = 0 := by omega
    have e : (i = g - 1) ↔ (i + 1 = g) := by omega
    rcases hk5 with rfl | rfl | rfl
    · simp [setl, fgt, clr, sI, upd, h0, e]
    · simp [setl, fgt, clr, sI, upd, h0, e]
    · simp [setl, fgt, clr, sI, upd, h0, e]
  refine ⟨⟨by omega, y2, y52, by omega, by omega⟩, ⟨e12, ?_, ?_, ?_, ?_, ?_⟩, fun i hi => ?_, ⟨fun i hi => ?_, fun i hi => ?_, fun i hi hgi => ?_, fun i hi hgi => ?_, fun i hi => ?_, ?_, ?_, ?_, ?_⟩, ⟨?_, ?_, ?_⟩, fun i hi => absurd hi (by omega)⟩
  · rw [tGdF, upd_o (by omega), pk_us, nI_1]
  · rw [e1 _ (by decide)]; exact a3
  · rw [eF _ (by omega) (by omega) (by omega) (by omega)]; exact a4
  · rw [e1 _ (by decide), eF _ (by omega) (by omega) (by omega) (by omega)]; exact a5
  · rw [eF _ (by omega) (by omega) (by omega) (by omega)]; exact a6
  · rw [show (1 : Nat) + 1 = 2 from rfl, show (1 : Nat) + 2 = 3 from rfl, e2, e3]
    by_cases e : i = g
    · subst e
      rw [if_pos rfl, if_pos rfl]
      have q1 : tGdF F i kq no (4 + i) = kq := by rw [tGdF, upd_o (by omega), upd_o (by omega), upd_o (by omega), pk_us]
      have q2 : tGdF F i kq no (10 + i) = no := by rw [tGdF, upd_o (by omega), upd_o (by omega), pk_us]
      rw [q1, q2]
      exact ⟨rfl, rfl, hkq, hno⟩
    · rw [if_neg e, if_neg e]
      have hh := hk i (by omega)
      rw [eF _ (by omega) (by omega) (by omega) (by omega), eF _ (by omega) (by omega) (by omega) (by omega)]
      exact hh
  · rw [show (1 : Nat) + 3 + 1 = 5 from rfl, show (1 : Nat) + 3 + 2 = 6 from rfl, show (1 : Nat) + 3 + 3 = 7 from rfl, e5 5 (by omega) i (by omega), e5 6 (by omega) i (by omega), e5 7 (by omega) i (by omega), eF _ (by omega) (by omega) (by omega) (by omega), eF _ (by omega) (by omega) (by omega) (by omega), eF _ (by omega) (by omega) (by omega) (by omega)]
    by_cases e : i + 1 = g
    · rw [if_pos e, if_pos e, if_pos e]
      obtain ⟨z1, z2, z3⟩ := s3 i (by omega) (by omega)
      exact ⟨z1.symm, z2.symm, Or.inl ⟨z3, rfl⟩⟩
    · rw [if_neg e, if_neg e, if_neg e]
      exact s1 i (by omega)
  · rw [show (1 : Nat) + 3 + 4 = 8 from rfl, e8, eF _ (by omega) (by omega) (by omega) (by omega)]
    by_cases e : i = g
    · rw [if_pos e]
      exact (s4 i (by omega) (by omega)).symm
    · rw [if_neg e]
      exact s2 i (by omega)
  · rw [eF _ (by omega) (by omega) (by omega) (by omega), eF _ (by omega) (by omega) (by omega) (by omega), eF _ (by omega) (by omega) (by omega) (by omega)]
    exact s3 i hi (by omega)
  · rw [eF _ (by omega) (by omega) (by omega) (by omega)]
    exact s4 i hi (by omega)
  · rw [eF _ (by omega) (by omega) (by omega) (by omega), eF _ (by omega) (by omega) (by omega) (by omega)]
    exact s5 i hi
  · rw [show (1 : Nat) + 3 = 4 from rfl, e4, eF _ (by omega) (by omega) (by omega) (by omega)]
    exact s7
  · rw [show (1 : Nat) + 3 = 4 from rfl, e4, eF _ (by omega) (by omega) (by omega) (by omega)]
    exact s8
  · rw [eF _ (by omega) (by omega) (by omega) (by omega)]
    exact s9
  · rw [eF _ (by omega) (by omega) (by omega) (by omega)]
    exact s10
  · by_cases h0 : g = 0
    · simp [setl, fgt, sI, upd, h0]; rfl
    · simp [setl, fgt, clr, sI, upd, h0]; rfl
  · by_cases h0 : g = 0
    · simp [setl, fgt, sI, upd, h0]; rfl
    · simp [setl, fgt, clr, sI, upd, h0]; rfl
  · rw [tGdF, pk_us]; rfl
theorem sim_garden {M : MM} {g y o u L : Nat} {kq no : Int32} (h : Rel M g y o u L) :
    (sGdn M g kq no).2 = (tGdn (M.1 121) g kq no).2 ∧ (sGdn M g kq no).1.1 121 = M.1 121 ∧ REL (rI (sGdn M g kq no).1 121 (tGdn (M.1 121) g kq no).1) := by
  have hg6 : g ≤ 6 := h.1.1.1
  by_cases h1 : wi kq 0 4 = 0
  · rw [sGdn, tGdn, if_pos h1, if_pos h1]
    exact ⟨rfl, rfl, rel_no h⟩
  · by_cases h2 : wi no 0 9 = 0
    · rw [sGdn, tGdn, if_neg h1, if_neg h1, if_pos h2, if_pos h2]
      exact ⟨rfl, rfl, rel_no h⟩
    · by_cases h3 : g = 6
      · subst h3
        rw [sGdn, tGdn, if_neg h1, if_neg h1, if_neg h2, if_neg h2, if_neg (show ¬ nI 6 < 6 by decide), if_pos (show nI 6 = 6 from rfl)]
        exact ⟨rfl, rfl, rel_no h⟩
      · have q1 : nI g < 6 := nI_lt (b := 6) (by omega) (by decide)
        have q2 : ¬ nI g = 6 := fun e => h3 ((nI_eq (a := g) (b := 6) (by omega) (by decide)).mp e)
        rw [sGdn, tGdn, if_neg h1, if_neg h1, if_neg h2, if_neg h2, if_pos q1, if_neg q2]
        refine ⟨rfl, setl_out (by omega), rel_do h (fun a ha => setl_out ha) setl_2 (sr_setl (by omega) (bd_of (n := 4) (by decide) h1) (bd_of (n := 9) (by decide) h2) h.1)⟩
