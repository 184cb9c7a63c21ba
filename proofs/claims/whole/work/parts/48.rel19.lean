/-! the year on the tape -/
theorem dig_bd {x : Int32} (h : ¬ wi x 48 57 = 0) : bd (x - 48) 9 := by
  obtain ⟨k, h1, h2, rfl⟩ := rng_of (a := 48) (b := 57) h (by decide) (by decide)
  exact ⟨k - 48, by omega, pk_sub (b := 48) h1⟩
theorem bd_nn {x : Int32} {n : Nat} (hn : n < 1000) (h : bd x n) : ¬ x < 0 := by
  obtain ⟨z, hz, rfl⟩ := h
  exact nI_nlt (b := 0) (by omega) (by omega)
theorem rd_no {f : Nat → Int32} {L p : Nat} (h : wi (hrv f L p) 48 57 = 0) : rdv f L p < 0 ∧ rdp f L p = sk f L p := by
  rw [rdv_eq, rdp_eq, if_pos h, if_pos h]
  exact ⟨by decide, rfl⟩
theorem rd_yes {f : Nat → Int32} {L p : Nat} (h : ¬ wi (hrv f L p) 48 57 = 0) : rdv f L p = hrv f L p - 48 ∧ ¬ rdv f L p < 0 ∧ rdp f L p = sk f L p + 1 := by
  rw [rdv_eq, rdp_eq, if_neg h, if_neg h]
  exact ⟨rfl, bd_nn (by decide) (dig_bd h), rfl⟩
theorem yr_eq {f : Nat → Int32} {L p : Nat} (h : ¬ wi (hrv f L p) 48 57 = 0) : yrv f L p = yrV f L p ∧ yrp f L p = yrA f L p := by
  obtain ⟨h1, _, h3⟩ := rd_yes h
  unfold yrv yrp yrV yrA
  rw [h1, h3]
  by_cases q : fgF f L (sk f L p + 1) = 0
  · have n : ¬ dgb f L (sk f L p + 1) = true := fun r => dgb_fg.mp r q
    rw [if_neg n, if_neg n, if_pos q, if_pos q]
    exact ⟨rfl, rfl⟩
  · have n : dgb f L (sk f L p + 1) = true := dgb_fg.mpr q
    rw [if_pos n, if_pos n, if_neg q, if_neg q]
    exact ⟨rfl, rfl⟩
theorem yrV_cg {f f' : Nat → Int32} {L p : Nat} (e : ∀ i, i < L → f i = f' i) : yrV f L p = yrV f' L p ∧ yrA f L p = yrA f' L p := by
  unfold yrV yrA
  rw [sk_cg e, hrv_cg e, fgF_cg e]
  refine ⟨?_, rfl⟩
  by_cases q : fgF f' L (sk f' L p + 1) = 0
  · rw [if_pos q, if_pos q]
  · rw [if_neg q, if_neg q, e _ (fgF_lt q)]
