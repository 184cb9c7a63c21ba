/-! the tape: the same letters read twice -/
theorem skn_cg {f f' : Nat → Int32} : ∀ n p, (∀ i, p ≤ i → i < p + n → f i = f' i) → skn f n p = skn f' n p
  | 0, _, _ => rfl
  | n + 1, p, h => by
    rw [skn, skn, h p (by omega) (by omega), skn_cg n (p + 1) (fun i h1 h2 => h i (by omega) (by omega))]
theorem sk_cg {f f' : Nat → Int32} {L : Nat} (e : ∀ i, i < L → f i = f' i) (p : Nat) : sk f L p = sk f' L p := skn_cg _ _ (fun i _ h2 => e i (by omega))
theorem hrv_cg {f f' : Nat → Int32} {L : Nat} (e : ∀ i, i < L → f i = f' i) (p : Nat) : hrv f L p = hrv f' L p := by
  unfold hrv
  rw [sk_cg e]
  by_cases h : L ≤ sk f' L p
  · rw [if_pos h, if_pos h]
  · rw [if_neg h, if_neg h, e _ (by omega)]
theorem fgF_cg {f f' : Nat → Int32} {L : Nat} (e : ∀ i, i < L → f i = f' i) (p : Nat) : fgF f L p = fgF f' L p := by
  unfold fgF
  by_cases h : L ≤ p
  · rw [if_pos h, if_pos h]
  · rw [if_neg h, if_neg h, e _ (by omega)]
theorem wi_iff (x a b : Int32) : (¬ wi x a b = 0) ↔ (a ≤ x ∧ x ≤ b) := by
  unfold wi
  by_cases h1 : x < a
  · rw [if_pos h1]
    exact ⟨fun q => absurd rfl q, fun q => absurd q.1 (Int32.not_le.mpr h1)⟩
  · by_cases h2 : b < x
    · rw [if_neg h1, if_pos h2]
      exact ⟨fun q => absurd rfl q, fun q => absurd q.2 (Int32.not_le.mpr h2)⟩
    · rw [if_neg h1, if_neg h2]
      exact ⟨fun _ => ⟨Int32.not_lt.mp h1, Int32.not_lt.mp h2⟩, fun _ => by decide⟩
theorem dgb_fg {f : Nat → Int32} {L p : Nat} : (dgb f L p = true) ↔ ¬ fgF f L p = 0 := by
  unfold fgF
  by_cases h : L ≤ p
  · rw [if_pos h]
    exact ⟨fun q => absurd q (dgb_n3 h), fun q => absurd rfl q⟩
  · rw [if_neg h, wi_iff]
    constructor
    · intro q
      simp [dgb] at q
      exact q.2
    · intro q
      exact dgb_y (by omega) (Int32.not_lt.mpr q.1) (Int32.not_lt.mpr q.2)
theorem dgb_hr {f : Nat → Int32} {L p : Nat} : (dgb f L (sk f L p) = true) ↔ ¬ wi (hrv f L p) 48 57 = 0 := by
  rw [dgb_fg]
  unfold fgF hrv
  by_cases h : L ≤ sk f L p
  · rw [if_pos h, if_pos h]
    exact ⟨fun q => absurd rfl q, fun q => absurd (by decide) q⟩
  · rw [if_neg h, if_neg h]
theorem rdp_eq (f : Nat → Int32) (L p : Nat) : rdp f L p = if wi (hrv f L p) 48 57 = 0 then sk f L p else sk f L p + 1 := by
  unfold rdp
  by_cases h : wi (hrv f L p) 48 57 = 0
  · rw [if_pos h, if_neg (fun q => dgb_hr.mp q h)]
  · rw [if_neg h, if_pos (dgb_hr.mpr h)]
theorem rdv_eq (f : Nat → Int32) (L p : Nat) : rdv f L p = if wi (hrv f L p) 48 57 = 0 then -1 else hrv f L p - 48 := by
  unfold rdv
  by_cases h : wi (hrv f L p) 48 57 = 0
  · rw [if_pos h, if_neg (fun q => dgb_hr.mp q h)]
  · rw [if_neg h, if_pos (dgb_hr.mpr h)]
    have hl : ¬ L ≤ sk f L p := fun q => h (by unfold hrv; rw [if_pos q]; decide)
    rw [hrv, if_neg hl]
theorem sg_hr {f : Nat → Int32} {L p : Nat} {ch : Int32} (hc : ¬ ch = -1) : (sk f L p < L ∧ f (sk f L p) = ch) ↔ hrv f L p = ch := by
  unfold hrv
  by_cases h : L ≤ sk f L p
  · rw [if_pos h]
    exact ⟨fun q => absurd q.1 (by omega), fun q => absurd q.symm hc⟩
  · rw [if_neg h]
    exact ⟨fun q => q.2, fun q => ⟨by omega, q⟩⟩
theorem sgv_eq {f : Nat → Int32} {L p : Nat} {ch : Int32} (hc : ¬ ch = -1) : sgv f L ch p = if hrv f L p = ch then 1 else 0 := by
  unfold sgv
  by_cases h : hrv f L p = ch
  · rw [if_pos h, if_pos ((sg_hr hc).mpr h)]
  · rw [if_neg h, if_neg (fun q => h ((sg_hr hc).mp q))]
theorem sgp_eq {f : Nat → Int32} {L p : Nat} {ch : Int32} (hc : ¬ ch = -1) : sgp f L ch p = if hrv f L p = ch then sk f L p + 1 else sk f L p := by
  unfold sgp
  by_cases h : hrv f L p = ch
  · rw [if_pos h, if_pos ((sg_hr hc).mpr h)]
  · rw [if_neg h, if_neg (fun q => h ((sg_hr hc).mp q))]
theorem sox_kof : ∀ z : Nat, z < 127 → sox (nI z) = kof (nI z) := by decide +kernel
theorem okq_eq {f : Nat → Int32} {L p : Nat} (e : ∀ i, i < L → ∃ z : Nat, 32 ≤ z ∧ z ≤ 126 ∧ f i = nI z) : okq f L p = kof (hrv f L p) := by
  unfold okq hrv
  by_cases h : L ≤ sk f L p
  · rw [if_pos h, if_pos h]
    decide
  · rw [if_neg h, if_neg h]
    obtain ⟨z, _, hz, ez⟩ := e (sk f L p) (by omega)
    rw [ez]
    exact sox_kof z (by omega)
