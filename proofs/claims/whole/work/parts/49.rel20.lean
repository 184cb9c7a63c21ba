/-! the tape: where the reading stands -/
theorem skn_stop (f : Nat → Int32) : ∀ n p, skn f n p < p + n → ¬ f (skn f n p) = 32
  | 0, p, h => absurd h (by rw [skn]; omega)
  | n + 1, p, h => by
    rw [skn] at h ⊢
    by_cases q : f p = 32
    · rw [if_pos q] at h ⊢
      exact skn_stop f n (p + 1) (by omega)
    · rw [if_neg q]
      exact q
theorem sk_idem (f : Nat → Int32) (L p : Nat) : sk f L (sk f L p) = sk f L p := by
  by_cases h : L ≤ sk f L p
  · show skn f (L - sk f L p) (sk f L p) = _
    rw [show L - sk f L p = 0 by omega]
    rfl
  · have hp : p ≤ sk f L p := sk_ge f L p
    have hs : ¬ f (sk f L p) = 32 := skn_stop f (L - p) p (show sk f L p < p + (L - p) by omega)
    show skn f (L - sk f L p) (sk f L p) = _
    rw [show L - sk f L p = (L - sk f L p - 1) + 1 by omega, skn, if_neg hs]
theorem hr_lt {f : Nat → Int32} {L p : Nat} (e : ∀ i, i < L → ∃ z : Nat, 32 ≤ z ∧ z ≤ 126 ∧ f i = nI z) : (hrv f L p < 0) ↔ L ≤ sk f L p := by
  unfold hrv
  by_cases h : L ≤ sk f L p
  · rw [if_pos h]
    exact ⟨fun _ => h, fun _ => by decide⟩
  · rw [if_neg h]
    obtain ⟨z, _, hz, ez⟩ := e (sk f L p) (by omega)
    rw [ez]
    exact ⟨fun q => absurd q (nI_nlt (b := 0) (by omega) (by omega)), fun q => absurd q h⟩
theorem hrv_idem (f : Nat → Int32) (L p : Nat) : hrv f L (sk f L p) = hrv f L p := by
  unfold hrv
  rw [sk_idem]
theorem ow_no {M : MM} {L p g : Nat} (e : ∀ i, i < L → ∃ z : Nat, 32 ≤ z ∧ z ≤ 126 ∧ M.1 107 i = nI z) (h : ¬ 0 ≤ kof (hrv (M.1 107) L p)) : owM M L p g = (sAt M (sk (M.1 107) L p), 0) := by
  unfold owM
  rw [okq_eq e, if_pos (Int32.not_le.mp h)]
theorem ow_no2 {M : MM} {L p g : Nat} (e : ∀ i, i < L → ∃ z : Nat, 32 ≤ z ∧ z ≤ 126 ∧ M.1 107 i = nI z) (h : 0 ≤ kof (hrv (M.1 107) L p)) (h2 : wi (hrv (M.1 107) L (sk (M.1 107) L p + 1)) 48 57 = 0) : owM M L p g = (sAt M (sk (M.1 107) L (sk (M.1 107) L p + 1)), 0) := by
  obtain ⟨r1, r2⟩ := rd_no h2
  unfold owM
  rw [okq_eq e, if_neg (Int32.not_lt.mpr h), if_pos r1, r2]
theorem ow_yes {M : MM} {L p g : Nat} (e : ∀ i, i < L → ∃ z : Nat, 32 ≤ z ∧ z ≤ 126 ∧ M.1 107 i = nI z) (h : 0 ≤ kof (hrv (M.1 107) L p)) (h2 : ¬ wi (hrv (M.1 107) L (sk (M.1 107) L p + 1)) 48 57 = 0) : owM M L p g = (sI (sI (sAt M (sk (M.1 107) L (sk (M.1 107) L p + 1) + 1)) 108 g (kof (hrv (M.1 107) L p))) 109 g (hrv (M.1 107) L (sk (M.1 107) L p + 1) - 48), 1) := by
  obtain ⟨r1, r2, r3⟩ := rd_yes h2
  unfold owM
  rw [okq_eq e, if_neg (Int32.not_lt.mpr h), if_neg r2, r1, r3]
