/-! the tape: a quarrel read -/
theorem i_asub (a b c : Int32) : a + b - c = a + (b - c) := by rw [Int32.sub_eq_add_neg, Int32.sub_eq_add_neg, Int32.add_assoc]
theorem qm_no {M : MM} {L p g : Nat} (h : wi (hrv (M.1 107) L p) 48 57 = 0) : qrM M L p g = (sAt M (sk (M.1 107) L p), 0) := by
  obtain ⟨r1, r2⟩ := rd_no h
  unfold qrM
  rw [if_pos r1, r2]
theorem qm_no2 {M : MM} {L p g : Nat} (h : ¬ wi (hrv (M.1 107) L p) 48 57 = 0) (h2 : wi (hrv (M.1 107) L (sk (M.1 107) L p + 1)) 48 57 = 0) : qrM M L p g = (sAt M (sk (M.1 107) L (sk (M.1 107) L p + 1)), 0) := by
  obtain ⟨r1, r2, r3⟩ := rd_yes h
  obtain ⟨q1, q2⟩ := rd_no h2
  unfold qrM
  rw [if_neg r2, r3, if_pos q1, q2]
theorem qm_yes {M : MM} {L p g : Nat} (h : ¬ wi (hrv (M.1 107) L p) 48 57 = 0) (h2 : ¬ wi (hrv (M.1 107) L (sk (M.1 107) L p + 1)) 48 57 = 0) : qrM M L p g = (sI (sAt M (sk (M.1 107) L (sk (M.1 107) L p + 1) + 1)) 110 (g - 1) (10 * (hrv (M.1 107) L p - 48) + (hrv (M.1 107) L (sk (M.1 107) L p + 1) - 48)), 1) := by
  obtain ⟨r1, r2, r3⟩ := rd_yes h
  obtain ⟨q1, q2, q3⟩ := rd_yes h2
  unfold qrM
  rw [if_neg r2, r3, if_neg q2, q3, r1, q1]
theorem q0_no {T : Nat → Int32} {L w p : Nat} {d : Nat → Int32} (h5 : ¬ nI w = 5) (h : wi (hrv T L p) 48 57 = 0) : qr0 T L w d p 0 = (d, sk T L p, nI (sk T L p), 0) := by
  rw [qr0, if_neg h5, if_pos h]
theorem q0_no2 {T : Nat → Int32} {L w p : Nat} {d : Nat → Int32} (h5 : ¬ nI w = 5) (h : ¬ wi (hrv T L p) 48 57 = 0) (h2 : wi (hrv T L (sk T L p + 1)) 48 57 = 0) : qr0 T L w d p 0 = (d, sk T L (sk T L p + 1), nI (sk T L (sk T L p + 1)), 0) := by
  rw [qr0, if_neg h5, if_neg h, qr1, if_neg h5, if_pos h2]
theorem q0_yes {T : Nat → Int32} {L w p : Nat} {d : Nat → Int32} (h5 : ¬ nI w = 5) (h : ¬ wi (hrv T L p) 48 57 = 0) (h2 : ¬ wi (hrv T L (sk T L p + 1)) 48 57 = 0) : qr0 T L w d p 0 = (upd d (27 + w) (10 * (hrv T L p - 48) + (hrv T L (sk T L p + 1) - 48)), sk T L (sk T L (sk T L p + 1) + 1) + 1, nI (sk T L (sk T L (sk T L p + 1) + 1)), if ¬ hrv T L (sk T L (sk T L p + 1) + 1) = 44 then 0 else 1) := by
  rw [qr0, if_neg h5, if_neg h, qr1, if_neg h5, if_neg h2, qr2, Int32.mul_zero, Int32.zero_add, i_asub]
theorem q_bd {x z : Int32} (h : ¬ wi x 48 57 = 0) (h2 : ¬ wi z 48 57 = 0) : bd (10 * (x - 48) + (z - 48)) 99 := by
  obtain ⟨a, ha, e1⟩ := dig_bd h
  obtain ⟨b, hb, e2⟩ := dig_bd h2
  refine ⟨10 * a + b, by omega, ?_⟩
  rw [e1, e2, show (10 : Int32) * nI a = nI (10 * a) from pk_mul 10 a]
  exact nI_add _ _
