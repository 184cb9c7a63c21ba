/-! the tape: gardens read on both sides -/
theorem kof_cases (x : Int32) : kof x = 0 ∨ kof x = 1 ∨ kof x = 2 ∨ kof x = 3 ∨ kof x = 4 ∨ kof x = -1 := by
  unfold kof
  by_cases h1 : x = 112
  · rw [if_neg (fun q => q h1)]; decide
  · rw [if_pos h1]
    by_cases h2 : x = 115
    · rw [if_neg (fun q => q h2)]; decide
    · rw [if_pos h2]
      by_cases h3 : x = 109
      · rw [if_neg (fun q => q h3)]; decide
      · rw [if_pos h3]
        by_cases h4 : x = 100
        · rw [if_neg (fun q => q h4)]; decide
        · rw [if_pos h4]
          by_cases h5 : x = 97
          · rw [if_neg (fun q => q h5)]; decide
          · rw [if_pos h5]; decide
theorem kof_bd {x : Int32} (h : 0 ≤ kof x) : bd (kof x) 4 := by
  rcases kof_cases x with e | e | e | e | e | e
  · exact ⟨0, by decide, e⟩
  · exact ⟨1, by decide, e⟩
  · exact ⟨2, by decide, e⟩
  · exact ⟨3, by decide, e⟩
  · exact ⟨4, by decide, e⟩
  · rw [e] at h
    exact absurd h (by decide)
def FRt (M0 M : MM) : Prop := (∀ a, a ≠ 106 → a ≠ 108 → a ≠ 109 → a ≠ 110 → M.1 a = M0.1 a) ∧ M.2 = M0.2
theorem frt_sI {M0 M : MM} {k j : Nat} {v : Int32} (hk : k = 106 ∨ k = 108 ∨ k = 109 ∨ k = 110) (h : FRt M0 M) : FRt M0 (sI M k j v) :=
  ⟨fun a h1 h2 h3 h4 => (sI_out (by omega)).trans (h.1 a h1 h2 h3 h4), h.2⟩
theorem frt_at {M0 M : MM} {p : Nat} (h : FRt M0 M) : FRt M0 (sAt M p) := frt_sI (by omega) h
def PI (D : Nat → Int32) (M0 M : MM) (d : Nat → Int32) (g q : Nat) : Prop :=
  d 0 = nI g ∧ M.1 106 5 = nI g ∧
  (∀ i, i < g → M.1 108 i = d (4 + i) ∧ M.1 109 i = d (10 + i) ∧ bd (d (4 + i)) 4 ∧ bd (d (10 + i)) 9) ∧
  (∀ i, i < q → M.1 110 i = d (27 + i) ∧ bd (d (27 + i)) 99) ∧
  (∀ a, 1 ≤ a → (a < 4 ∨ 4 + g ≤ a) → (a < 10 ∨ 10 + g ≤ a) → (a < 27 ∨ 27 + q ≤ a) → d a = D a) ∧
  M.1 106 6 = M0.1 106 6 ∧ FRt M0 M
theorem pi_own {D d : Nat → Int32} {M0 M : MM} {g a b : Nat} {K N : Int32} (hg : g < 6) (hK : bd K 4) (hN : bd N 9) (h : PI D M0 M d g g) :
    PI D M0 (sAt (sI (sI (sI (sAt M a) 108 g K) 109 g N) 106 5 (nI (g + 1))) b) (upd (upd (upd d (4 + g) K) (10 + g) N) 0 (nI g + 1)) (g + 1) g := by
  obtain ⟨h1, h2, h3, h4, h5, h6, h7⟩ := h
  refine ⟨?_, ?_, fun i hi => ?_, fun i hi => ?_, fun j j0 j1 j2 j3 => ?_, ?_, ?_⟩
  · rw [pk_us, nI_1]
  · rw [sAt, sI_oth (by decide), sI_same]
  · have e8 : (sAt (sI (sI (sI (sAt M a) 108 g K) 109 g N) 106 5 (nI (g + 1))) b).1 108 = (sI M 108 g K).1 108 := by
      rw [sAt, sI_out (by decide), sI_out (by decide), sI_out (by decide)]
      simp [sI, sAt]
    have e9 : (sAt (sI (sI (sI (sAt M a) 108 g K) 109 g N) 106 5 (nI (g + 1))) b).1 109 = (sI M 109 g N).1 109 := by
      rw [sAt, sI_out (by decide), sI_out (by decide)]
      simp [sI, sAt]
    rw [e8, e9, upd_o (show 4 + i ≠ 0 by omega), upd_o (show 4 + i ≠ 10 + g by omega), upd_o (show 10 + i ≠ 0 by omega)]
    by_cases e : i = g
    · subst e
      rw [sI_same, sI_same, pk_us, pk_us]
      exact ⟨rfl, rfl, hK, hN⟩
    · rw [sI_oth e, sI_oth e, upd_o (by omega), upd_o (by omega), upd_o (by omega)]
      exact h3 i (by omega)
  · rw [sAt, sI_out (by decide), sI_out (by decide), sI_out (by decide), sI_out (by decide), sAt, sI_out (by decide), upd_o (by omega), upd_o (by omega), upd_o (by omega)]
    exact h4 i hi
  · rw [upd_o (by omega), upd_o (by omega), upd_o (by omega)]
    exact h5 j j0 (by omega) (by omega) j3
  · rw [sAt, sI_oth (by decide), sI_oth (by decide), sI_out (by decide), sI_out (by decide), sAt, sI_oth (by decide)]
    exact h6
  · exact frt_at (frt_sI (by omega) (frt_sI (by omega) (frt_sI (by omega) (frt_at h7))))
theorem pi_qr {D d : Nat → Int32} {M0 M : MM} {g a b : Nat} {v : Int32} (hv : bd v 99) (hg : g < 5) (h : PI D M0 M d (g + 1) g) :
    PI D M0 (sAt (sI (sAt M a) 110 g v) b) (upd d (27 + g) v) (g + 1) (g + 1) := by
  obtain ⟨h1, h2, h3, h4, h5, h6, h7⟩ := h
  refine ⟨?_, ?_, fun i hi => ?_, fun i hi => ?_, fun j j0 j1 j2 j3 => ?_, ?_, ?_⟩
  · rw [upd_o (by omega)]; exact h1
  · rw [sAt, sI_oth (by decide), sI_out (by decide), sAt, sI_oth (by decide)]; exact h2
  · rw [sAt, sI_out (by decide), sI_out (by decide), sAt, sI_out (by decide), sI_out (by decide), sI_out (by decide), sI_out (by decide), upd_o (by omega), upd_o (by omega)]
    exact h3 i hi
  · rw [sAt, sI_out (by decide)]
    by_cases e : i = g
    · subst e
      rw [sI_same, pk_us]
      exact ⟨rfl, hv⟩
    · rw [sI_oth e, sAt, sI_out (by decide), upd_o (by omega)]
      exact h4 i (by omega)
  · rw [upd_o (by omega)]
    exact h5 j j0 j1 j2 (by omega)
  · rw [sAt, sI_oth (by decide), sI_out (by decide), sAt, sI_oth (by decide)]; exact h6
  · exact frt_at (frt_sI (by omega) (frt_at h7))
def PR (D : Nat → Int32) (M0 : MM) (c : MM × Int32) (r : (Nat → Int32) × Nat × Int32 × Int32 × Int32) : Prop :=
  FRt M0 c.1 ∧ ((r.2.2.2.2 = 0 ∧ ∃ z, z ≤ 1000 ∧ r.2.2.1 = nI z ∧ c.2 = -20 - nI z) ∨ (r.2.2.2.2 = 1 ∧ ∃ t, 1 ≤ t ∧ t ≤ 6 ∧ c.2 = nI t ∧ PI D M0 c.1 r.1 t (t - 1)))
theorem pr_no {D d : Nat → Int32} {M0 M : MM} {q q' z : Nat} {mo : Int32} (h : FRt M0 M) (hz : z ≤ 1000) (hq : q = z) (hq' : q' = z) {p : Nat} : PR D M0 (xt (sAt M q)) (d, p, nI q', mo, 0) := by
  subst hq
  subst hq'
  refine ⟨frt_at h, Or.inl ⟨rfl, _, hz, rfl, ?_⟩⟩
  show -20 - (sAt M _).1 106 7 = _
  rw [sAt, sI_same]
theorem rgF_0 (T : Nat → Int32) (L n g : Nat) (d : Nat → Int32) (p : Nat) (e : Int32) : rgF T L n g d p e 0 = (d, p, e, 0, 1) := by
  cases n with
  | zero => rfl
  | succ n => rw [rgF, if_pos rfl]
