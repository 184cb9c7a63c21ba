/-! the tape: the loop over gardens, on both sides -/
theorem one_nz : ¬ (1 : Int32) = 0 := by decide
theorem pl_no {M : MM} {L p g n : Nat} (h : (owM M L p g).2 = 0) : pl L (n + 1) g p M = xt (owM M L p g).1 := if_pos h
theorem pl_yes {M : MM} {L p g n : Nat} (h : ¬ (owM M L p g).2 = 0) : pl L (n + 1) g p M = if L ≤ pP2 M L p then (pM3 M L p g, nI (g + 1)) else if 6 ≤ g + 1 then xt (pM3 M L p g) else if (pQ4 M L p g).2 = 0 then xt (pQ4 M L p g).1 else if sgv (M.1 107) L 44 (pP3 M L p) = 0 then xt (pM5 M L p g) else pl L n (g + 1) (pP4 M L p) (pM5 M L p g) := if_neg h
theorem rg_yes {T : Nat → Int32} {L n g p : Nat} {d : Nat → Int32} {e : Int32} (h : ¬ (tGr T L g d p 1).2.2.2.2 = 0) : rgF T L (n + 1) g d p e 1 = rgF T L n (g + 1) (tGr T L g d p 1).1 (tGr T L g d p 1).2.1 (tGr T L g d p 1).2.2.1 (tGr T L g d p 1).2.2.2.1 := by
  rw [rgF, if_neg (by decide), if_pos h]
theorem rg_no {T : Nat → Int32} {L n g p : Nat} {d : Nat → Int32} {e : Int32} (h : (tGr T L g d p 1).2.2.2.2 = 0) : rgF T L (n + 1) g d p e 1 = ((tGr T L g d p 1).1, (tGr T L g d p 1).2.1, (tGr T L g d p 1).2.2.1, (tGr T L g d p 1).2.2.2.1, 0) := by
  rw [rgF, if_neg (by decide), if_neg (fun q => q h)]
theorem pl_step {D : Nat → Int32} {M0 : MM} {L : Nat} (h60 : L ≤ 60) (ez0 : ∀ i, i < L → ∃ z : Nat, 32 ≤ z ∧ z ≤ 126 ∧ M0.1 107 i = nI z) (n : Nat)
    (ih : ∀ g p (M : MM) (d : Nat → Int32) (e : Int32), g + n = 6 ∧ g < 6 → p ≤ 100 + 20 * g → PI D M0 M d g g → PR D M0 (pl L n g p M) (rgF (M0.1 107) L n g d p e 1)) :
    ∀ g p (M : MM) (d : Nat → Int32) (e : Int32), g + (n + 1) = 6 → p ≤ 100 + 20 * g → PI D M0 M d g g → PR D M0 (pl L (n + 1) g p M) (rgF (M0.1 107) L (n + 1) g d p e 1) := by
  intro g p M d e hg hp hI
  have hF : FRt M0 M := hI.2.2.2.2.2.2
  have hM : M.1 107 = M0.1 107 := hF.1 107 (by decide) (by decide) (by decide) (by decide)
  have ez : ∀ i, i < L → ∃ z : Nat, 32 ≤ z ∧ z ≤ 126 ∧ M.1 107 i = nI z := by rw [hM]; exact ez0
  have ihM : ∀ g p (M' : MM) (d : Nat → Int32) (e : Int32), g + n = 6 ∧ g < 6 → p ≤ 100 + 20 * g → PI D M0 M' d g g → PR D M0 (pl L n g p M') (rgF (M.1 107) L n g d p e 1) := by rw [hM]; exact ih
  rw [← hM]
  have b1 : sk (M.1 107) L p ≤ 100 + 20 * g := sk_le hp (by omega)
  have b2 : sk (M.1 107) L (sk (M.1 107) L p + 1) ≤ 101 + 20 * g := sk_le (by omega) (by omega)
  by_cases c1 : 0 ≤ kof (hrv (M.1 107) L p)
  · by_cases c2 : wi (hrv (M.1 107) L (sk (M.1 107) L p + 1)) 48 57 = 0
    · have t1 : tGr (M.1 107) L g d p 1 = (d, sk (M.1 107) L (sk (M.1 107) L p + 1), nI (sk (M.1 107) L (sk (M.1 107) L p + 1)), 1, 0) := by rw [tGr, if_pos c1, if_pos c2]
      have o1 := ow_no2 (g := g) ez c1 c2
      rw [rg_no (by rw [t1]), t1, pl_no (by rw [o1]), o1]
      exact pr_no hF (by omega) rfl rfl
    · have o1 := ow_yes (g := g) ez c1 c2
      have t1 : tGr (M.1 107) L g d p 1 = grB (M.1 107) L g (grD (M.1 107) L g d p) (sk (M.1 107) L (sk (M.1 107) L p + 1) + 1) := by rw [tGr, if_pos c1, if_neg c2]
      have hI2 : PI D M0 (pM3 M L p g) (grD (M.1 107) L g d p) (g + 1) g := by
        show PI D M0 (sAt (sI (owM M L p g).1 106 5 (nI (g + 1))) (pP2 M L p)) _ _ _
        rw [o1]
        exact pi_own (by omega) (kof_bd c1) (dig_bd c2) hI
      have hP1 : pP1 M L p = sk (M.1 107) L (sk (M.1 107) L p + 1) + 1 := (rd_yes c2).2.2
      have hP2 : pP2 M L p = sk (M.1 107) L (sk (M.1 107) L (sk (M.1 107) L p + 1) + 1) := by rw [pP2, hP1]
      have hW : (pM3 M L p g).1 107 = M.1 107 := (hI2.2.2.2.2.2.2.1 107 (by decide) (by decide) (by decide) (by decide)).trans hM.symm
      rw [pl_yes (by rw [o1]; exact one_nz), hP2]
      generalize hq : sk (M.1 107) L (sk (M.1 107) L p + 1) + 1 = P1 at *
      have b3 : sk (M.1 107) L P1 ≤ 102 + 20 * g := sk_le (by omega) (by omega)
      by_cases c3 : L ≤ sk (M.1 107) L P1
      · have t2 : tGr (M.1 107) L g d p 1 = (grD (M.1 107) L g d p, sk (M.1 107) L P1, nI (sk (M.1 107) L P1), 0, 1) := by rw [t1, grB, if_pos ((hr_lt ez).mpr c3)]
        rw [if_pos c3, rg_yes (by rw [t2]; exact one_nz), t2, rgF_0]
        exact ⟨hI2.2.2.2.2.2.2, Or.inr ⟨rfl, g + 1, by omega, by omega, rfl, hI2⟩⟩
      · rw [if_neg c3]
        have t2 : tGr (M.1 107) L g d p 1 = ((qr0 (M.1 107) L g (grD (M.1 107) L g d p) (sk (M.1 107) L P1) 0).1, (qr0 (M.1 107) L g (grD (M.1 107) L g d p) (sk (M.1 107) L P1) 0).2.1, (qr0 (M.1 107) L g (grD (M.1 107) L g d p) (sk (M.1 107) L P1) 0).2.2.1, 1, if (qr0 (M.1 107) L g (grD (M.1 107) L g d p) (sk (M.1 107) L P1) 0).2.2.2 = 0 then 0 else 1) := by rw [t1, grB, if_neg (fun q => c3 ((hr_lt ez).mp q))]
        by_cases c4 : 6 ≤ g + 1
        · have h5 : nI g = 5 := by rw [show g = 5 by omega]; rfl
          have q1 : qr0 (M.1 107) L g (grD (M.1 107) L g d p) (sk (M.1 107) L P1) 0 = (grD (M.1 107) L g d p, sk (M.1 107) L P1, nI (sk (M.1 107) L P1), 0) := by rw [qr0, if_pos h5, sk_idem]
          rw [q1, if_pos rfl] at t2
          rw [if_pos c4, rg_no (by rw [t2]), t2]
          refine ⟨hI2.2.2.2.2.2.2, Or.inl ⟨rfl, _, (by omega : sk (M.1 107) L P1 ≤ 1000), rfl, ?_⟩⟩
          show -20 - (pM3 M L p g).1 106 7 = _
          rw [pM3, sAt, sI_same, hP2]
        · rw [if_neg c4]
          have h5 : ¬ nI g = 5 := fun q => absurd ((nI_eq (a := g) (b := 5) (by omega) (by decide)).mp q) (by omega)
          by_cases c5 : wi (hrv (M.1 107) L P1) 48 57 = 0
          · have c5' : wi (hrv (M.1 107) L (sk (M.1 107) L P1)) 48 57 = 0 := by rw [hrv_idem]; exact c5
            have q1 := q0_no (T := M.1 107) (L := L) (w := g) (d := grD (M.1 107) L g d p) h5 c5'
            rw [sk_idem] at q1
            rw [q1, if_pos rfl] at t2
            have q2 : pQ4 M L p g = (sAt (pM3 M L p g) (sk (M.1 107) L P1), 0) := by
              have z := qm_no (M := pM3 M L p g) (L := L) (p := pP2 M L p) (g := g + 1) (by rw [hW, hP2]; exact c5')
              rw [hW, hP2, sk_idem] at z
              rw [pQ4, hP2]
              exact z
            rw [if_pos (by rw [q2]), q2, rg_no (by rw [t2]), t2]
            exact pr_no hI2.2.2.2.2.2.2 (by omega) rfl rfl
          · have c5' : ¬ wi (hrv (M.1 107) L (sk (M.1 107) L P1)) 48 57 = 0 := by rw [hrv_idem]; exact c5
            have b4 : sk (M.1 107) L (sk (M.1 107) L P1 + 1) ≤ 103 + 20 * g := sk_le (by omega) (by omega)
            by_cases c6 : wi (hrv (M.1 107) L (sk (M.1 107) L P1 + 1)) 48 57 = 0
            · have c6' : wi (hrv (M.1 107) L (sk (M.1 107) L (sk (M.1 107) L P1) + 1)) 48 57 = 0 := by rw [sk_idem]; exact c6
              have q1 := q0_no2 (T := M.1 107) (L := L) (w := g) (d := grD (M.1 107) L g d p) h5 c5' c6'
              rw [sk_idem] at q1
              rw [q1, if_pos rfl] at t2
              have q2 : pQ4 M L p g = (sAt (pM3 M L p g) (sk (M.1 107) L (sk (M.1 107) L P1 + 1)), 0) := by
                have z := qm_no2 (M := pM3 M L p g) (L := L) (p := pP2 M L p) (g := g + 1) (by rw [hW, hP2]; exact c5') (by rw [hW, hP2]; exact c6')
                rw [hW, hP2, sk_idem] at z
                rw [pQ4, hP2]
                exact z
              rw [if_pos (by rw [q2]), q2, rg_no (by rw [t2]), t2]
              exact pr_no hI2.2.2.2.2.2.2 (by omega) rfl rfl
            · have c6' : ¬ wi (hrv (M.1 107) L (sk (M.1 107) L (sk (M.1 107) L P1) + 1)) 48 57 = 0 := by rw [sk_idem]; exact c6
              have q1 := q0_yes (T := M.1 107) (L := L) (w := g) (d := grD (M.1 107) L g d p) h5 c5' c6'
              rw [sk_idem, hrv_idem] at q1
              have q2 : pQ4 M L p g = (sI (sAt (pM3 M L p g) (sk (M.1 107) L (sk (M.1 107) L P1 + 1) + 1)) 110 g (10 * (hrv (M.1 107) L P1 - 48) + (hrv (M.1 107) L (sk (M.1 107) L P1 + 1) - 48)), 1) := by
                have z := qm_yes (M := pM3 M L p g) (L := L) (p := pP2 M L p) (g := g + 1) (by rw [hW, hP2]; exact c5') (by rw [hW, hP2]; exact c6')
                rw [hW, hP2, sk_idem, hrv_idem] at z
                rw [pQ4, hP2]
                exact z
              have hP3 : pP3 M L p = sk (M.1 107) L (sk (M.1 107) L P1 + 1) + 1 := by
                rw [pP3, hP2, (rd_yes c5').2.2, sk_idem, (rd_yes c6).2.2]
              have hv : bd (10 * (hrv (M.1 107) L P1 - 48) + (hrv (M.1 107) L (sk (M.1 107) L P1 + 1) - 48)) 99 := q_bd c5 c6
              have h5g : g < 5 := by omega
              have hI3 : ∀ b, PI D M0 (sAt (pQ4 M L p g).1 b) (upd (grD (M.1 107) L g d p) (27 + g) (10 * (hrv (M.1 107) L P1 - 48) + (hrv (M.1 107) L (sk (M.1 107) L P1 + 1) - 48))) (g + 1) (g + 1) := by
                intro b
                rw [q2]
                exact pi_qr hv h5g hI2
              have hF3 : FRt M0 (pQ4 M L p g).1 := by
                rw [q2]
                exact frt_sI (by omega) (frt_at hI2.2.2.2.2.2.2)
              rw [if_neg (by rw [q2]; exact one_nz), pM5, pP4, hP3]
              generalize hq3 : sk (M.1 107) L (sk (M.1 107) L P1 + 1) + 1 = P3 at *
              have b5 : sk (M.1 107) L P3 ≤ 104 + 20 * g := sk_le (by omega) (by omega)
              by_cases c7 : hrv (M.1 107) L P3 = 44
              · have s1 : sgv (M.1 107) L 44 P3 = 1 := by rw [sgv_eq (by decide), if_pos c7]
                have s2 : sgp (M.1 107) L 44 P3 = sk (M.1 107) L P3 + 1 := by rw [sgp_eq (by decide), if_pos c7]
                rw [if_neg (fun q => q c7)] at q1
                rw [q1] at t2
                rw [if_neg (show ¬ ((1 : Int32) = 0) by decide)] at t2
                rw [s1, if_neg (by decide), s2, rg_yes (by rw [t2]; exact one_nz), t2]
                exact ihM (g + 1) _ _ _ _ (by omega) (by omega) (hI3 _)
              · have s1 : sgv (M.1 107) L 44 P3 = 0 := by rw [sgv_eq (by decide), if_neg c7]
                have s2 : sgp (M.1 107) L 44 P3 = sk (M.1 107) L P3 := by rw [sgp_eq (by decide), if_neg c7]
                rw [if_pos c7] at q1
                rw [q1] at t2
                rw [if_pos rfl] at t2
                rw [s1, if_pos rfl, s2, rg_no (by rw [t2]), t2]
                exact pr_no hF3 (by omega) rfl rfl
  · have t1 : tGr (M.1 107) L g d p 1 = (d, sk (M.1 107) L p, nI (sk (M.1 107) L p), 1, 0) := by rw [tGr, if_neg c1]
    have o1 := ow_no (g := g) ez c1
    rw [rg_no (by rw [t1]), t1, pl_no (by rw [o1]), o1]
    exact pr_no hF (by omega) rfl rfl
theorem pl_sim {D : Nat → Int32} {M0 : MM} {L : Nat} (h60 : L ≤ 60) (ez0 : ∀ i, i < L → ∃ z : Nat, 32 ≤ z ∧ z ≤ 126 ∧ M0.1 107 i = nI z) : ∀ n g p (M : MM) (d : Nat → Int32) (e : Int32), g + (n + 1) = 6 → p ≤ 100 + 20 * g → PI D M0 M d g g → PR D M0 (pl L (n + 1) g p M) (rgF (M0.1 107) L (n + 1) g d p e 1) := by
  intro n
  induction n with
  | zero => exact pl_step h60 ez0 0 (fun g _ _ _ _ hg => absurd hg (by omega))
  | succ n ih => exact pl_step h60 ez0 (n + 1) (fun g p M d e hg => ih g p M d e (by omega))
