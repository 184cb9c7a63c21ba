/-! a street read, on both sides -/
theorem tGr_cg {T f : Nat → Int32} {L : Nat} (e : ∀ i, i < L → T i = f i) (g : Nat) (d : Nat → Int32) (p : Nat) (mo : Int32) : tGr T L g d p mo = tGr f L g d p mo := by
  have hs : sk T L = sk f L := funext fun p => sk_cg e p
  have hh : hrv T L = hrv f L := funext fun p => hrv_cg e p
  unfold tGr grB grD qr0 qr1 qr2
  rw [hs, hh]
theorem rgF_cg {T f : Nat → Int32} {L : Nat} (e : ∀ i, i < L → T i = f i) : ∀ n g (d : Nat → Int32) p (x mo : Int32), rgF T L n g d p x mo = rgF f L n g d p x mo
  | 0, _, _, _, _, _ => rfl
  | n + 1, g, d, p, x, mo => by rw [rgF, rgF, tGr_cg e, rgF_cg e n]
theorem tYr_cg {T f : Nat → Int32} {L : Nat} (e : ∀ i, i < L → T i = f i) (d : Nat → Int32) (p : Nat) : tYr T L d p = tYr f L d p := by
  have hs : sk T L = sk f L := funext fun p => sk_cg e p
  have hh : hrv T L = hrv f L := funext fun p => hrv_cg e p
  have hv : yrV T L = yrV f L := funext fun p => (yrV_cg e).1
  have ha : yrA T L = yrA f L := funext fun p => (yrV_cg e).2
  unfold tYr
  rw [hs, hh, hv, ha]
theorem frt_tr {A B C : MM} (h1 : FRt A B) (h2 : FRt B C) : FRt A C := ⟨fun a q1 q2 q3 q4 => (h2.1 a q1 q2 q3 q4).trans (h1.1 a q1 q2 q3 q4), h2.2.trans h1.2⟩
theorem frt_rf (A : MM) : FRt A A := ⟨fun _ _ _ _ _ => rfl, rfl⟩
theorem frt_pr0 (M : MM) : FRt M (pr0 M) := frt_sI (by omega) (frt_sI (by omega) (frt_rf M))
theorem frt_pr1 (M : MM) (L : Nat) : FRt M (pr1 M L) := frt_at (frt_sI (by omega) (frt_at (frt_pr0 M)))
theorem bgF_v {h : Nat → Int32} {y e d : Int32} {a : Nat} (ha : a < 223) (h1 : a ≠ 1) (h2 : a ≠ 2) (h3 : a ≠ 37) : bgF h y e d a = if wi (nI a) 32 36 = 0 then 0 else -99 := by
  rw [bgF, upd_o h3, upd_o h2, upd_o h1, bgn_in h 223 ha]
theorem prs_sim {M : MM} {L : Nat} {k : Nat → Int32} (h60 : L ≤ 60) (e : ∀ i, i < L → M.1 107 i = M.1 125 i ∧ ∃ z : Nat, 32 ≤ z ∧ z ≤ 126 ∧ M.1 125 i = nI z) :
    FRt M (prs M L).1 ∧ (((tRd M L k).2.2.2.2 = 0 ∧ ∃ z, z ≤ 1000 ∧ (tRd M L k).2.2.1 = nI z ∧ (prs M L).2 = -20 - nI z) ∨ ((tRd M L k).2.2.2.2 = 1 ∧ ∃ t yy : Nat, 1 ≤ t ∧ t ≤ 6 ∧ 2 ≤ yy ∧ yy ≤ 52 ∧ (prs M L).2 = nI t ∧ (prs M L).1.1 106 6 = nI yy ∧ PI (upd (rdD M k) 1 (nI yy)) (pr1 M L) (prs M L).1 (tRd M L k).1 t (t - 1))) := by
  have e1 : ∀ i, i < L → M.1 125 i = M.1 107 i := fun i hi => (e i hi).1.symm
  have ez : ∀ i, i < L → ∃ z : Nat, 32 ≤ z ∧ z ≤ 126 ∧ M.1 107 i = nI z := fun i hi => by rw [(e i hi).1]; exact (e i hi).2
  have hY : rdY M L k = tYr (M.1 107) L (rdD M k) 0 := tYr_cg e1 _ _
  have b1 : sk (M.1 107) L 0 ≤ 60 := sk_le (by omega) h60
  by_cases c1 : wi (hrv (M.1 107) L 0) 48 57 = 0
  · have y1 : rdY M L k = (rdD M k, sk (M.1 107) L 0, nI (sk (M.1 107) L 0), 0) := by rw [hY, tYr, if_pos c1]
    have t1 : tRd M L k = (rdD M k, sk (M.1 107) L 0, nI (sk (M.1 107) L 0), M.1 120 12, 0) := by rw [tRd, y1, if_neg (fun q => q rfl)]
    have r1 : yrM (pr0 M) L 0 = (sAt (pr0 M) (sk (M.1 107) L 0), 0) := by
      obtain ⟨q1, q2⟩ := rd_no c1
      rw [yrM, show (pr0 M).1 107 = M.1 107 from rfl, if_pos q1, q2]
    have p1 : prs M L = xt (sAt (pr0 M) (sk (M.1 107) L 0)) := by rw [prs, r1, if_pos rfl]
    rw [t1, p1]
    refine ⟨frt_at (frt_pr0 M), Or.inl ⟨rfl, _, (by omega : sk (M.1 107) L 0 ≤ 1000), rfl, ?_⟩⟩
    show -20 - (sAt (pr0 M) _).1 106 7 = _
    rw [sAt, sI_same]
  · obtain ⟨v1, v2⟩ := yr_eq c1
    obtain ⟨d1, d2, d3⟩ := rd_yes c1
    by_cases c2 : wi (yrV (M.1 107) L 0) 2 52 = 0
    · have y1 : rdY M L k = (rdD M k, yrA (M.1 107) L 0, nI (sk (M.1 107) L 0), 0) := by rw [hY, tYr, if_neg c1, if_pos c2]
      have t1 : tRd M L k = (rdD M k, yrA (M.1 107) L 0, nI (sk (M.1 107) L 0), M.1 120 12, 0) := by rw [tRd, y1, if_neg (fun q => q rfl)]
      have r1 : yrM (pr0 M) L 0 = (sAt (pr0 M) (sk (M.1 107) L 0), 0) := by
        rw [yrM, show (pr0 M).1 107 = M.1 107 from rfl, if_neg d2, v1, if_pos c2, d3, Nat.add_sub_cancel]
      have p1 : prs M L = xt (sAt (pr0 M) (sk (M.1 107) L 0)) := by rw [prs, r1, if_pos rfl]
      rw [t1, p1]
      refine ⟨frt_at (frt_pr0 M), Or.inl ⟨rfl, _, (by omega : sk (M.1 107) L 0 ≤ 1000), rfl, ?_⟩⟩
      show -20 - (sAt (pr0 M) _).1 106 7 = _
      rw [sAt, sI_same]
    · obtain ⟨yy, hy1, hy2, hyy⟩ := rng_of (a := 2) (b := 52) c2 (by decide) (by decide)
      have b2 : yrA (M.1 107) L 0 ≤ 62 := by unfold yrA; split <;> omega
      have b3 : sk (M.1 107) L (yrA (M.1 107) L 0) ≤ 62 := sk_le b2 (by omega)
      have r1 : ¬ (yrM (pr0 M) L 0).2 = 0 := by
        rw [yrM, show (pr0 M).1 107 = M.1 107 from rfl, if_neg d2, v1, if_neg c2]
        exact one_nz
      have p1 : prs M L = if sgv (M.1 107) L 59 (yrA (M.1 107) L 0) = 0 then xt (pr1 M L) else pl L 6 0 (sgp (M.1 107) L 59 (yrA (M.1 107) L 0)) (pr1 M L) := by rw [prs, if_neg r1, v2]
      by_cases c3 : hrv (M.1 107) L (yrA (M.1 107) L 0) = 59
      · have s1 : sgv (M.1 107) L 59 (yrA (M.1 107) L 0) = 1 := by rw [sgv_eq (by decide), if_pos c3]
        have s2 : sgp (M.1 107) L 59 (yrA (M.1 107) L 0) = sk (M.1 107) L (yrA (M.1 107) L 0) + 1 := by rw [sgp_eq (by decide), if_pos c3]
        have y1 : rdY M L k = (upd (rdD M k) 1 (nI yy), sk (M.1 107) L (yrA (M.1 107) L 0) + 1, nI (sk (M.1 107) L (yrA (M.1 107) L 0)), 1) := by rw [hY, tYr, if_neg c1, if_neg c2, if_neg (fun q => q c3), hyy]
        have t1 : tRd M L k = rgF (M.1 107) L 6 0 (upd (rdD M k) 1 (nI yy)) (sk (M.1 107) L (yrA (M.1 107) L 0) + 1) (nI (sk (M.1 107) L (yrA (M.1 107) L 0))) 1 := by rw [tRd, y1, if_pos (show ¬ ((1 : Int32) = 0) by decide), rgF_cg e1]
        have h6 : (pr1 M L).1 106 6 = nI yy := by
          show (sAt (sI (sAt (pr0 M) (yrp (M.1 107) L 0)) 106 6 (yrv (M.1 107) L 0)) _).1 106 6 = _
          rw [sAt, sI_oth (by decide), sI_same, v1, hyy]
        have hI : PI (upd (rdD M k) 1 (nI yy)) (pr1 M L) (pr1 M L) (upd (rdD M k) 1 (nI yy)) 0 0 := by
          refine ⟨?_, ?_, fun i hi => absurd hi (by omega), fun i hi => absurd hi (by omega), fun _ _ _ _ _ => rfl, rfl, frt_rf _⟩
          · rw [upd_o (by decide), rdD, bgF_0]; rfl
          · show (sAt (sI (sAt (sI (sI M 106 7 0) 106 5 0) _) 106 6 _) _).1 106 5 = _
            rw [sAt, sI_oth (by decide), sI_oth (by decide), sAt, sI_oth (by decide), sI_same]
            rfl
        have hs := pl_sim (D := upd (rdD M k) 1 (nI yy)) (M0 := pr1 M L) h60 ez 5 0 (sk (M.1 107) L (yrA (M.1 107) L 0) + 1) (pr1 M L) (upd (rdD M k) 1 (nI yy)) (nI (sk (M.1 107) L (yrA (M.1 107) L 0))) rfl (by omega) hI
        rw [show (pr1 M L).1 107 = M.1 107 from rfl] at hs
        rw [p1, s1, if_neg (by decide), s2, t1]
        obtain ⟨f1, f2⟩ := hs
        refine ⟨frt_tr (frt_pr1 M L) f1, ?_⟩
        rcases f2 with q | ⟨q1, t, q2, q3, q4, q5⟩
        · exact Or.inl q
        · exact Or.inr ⟨q1, t, yy, q2, q3, hy1, hy2, q4, q5.2.2.2.2.2.1.trans h6, q5⟩
      · have s1 : sgv (M.1 107) L 59 (yrA (M.1 107) L 0) = 0 := by rw [sgv_eq (by decide), if_neg c3]
        have s2 : sgp (M.1 107) L 59 (yrA (M.1 107) L 0) = sk (M.1 107) L (yrA (M.1 107) L 0) := by rw [sgp_eq (by decide), if_neg c3]
        have y1 : rdY M L k = (upd (rdD M k) 1 (nI yy), sk (M.1 107) L (yrA (M.1 107) L 0) + 1, nI (sk (M.1 107) L (yrA (M.1 107) L 0)), 0) := by rw [hY, tYr, if_neg c1, if_neg c2, if_pos c3, hyy]
        have t1 : tRd M L k = (upd (rdD M k) 1 (nI yy), sk (M.1 107) L (yrA (M.1 107) L 0) + 1, nI (sk (M.1 107) L (yrA (M.1 107) L 0)), M.1 120 12, 0) := by rw [tRd, y1, if_neg (fun q => q rfl)]
        rw [t1, p1, s1, if_pos rfl]
        refine ⟨frt_pr1 M L, Or.inl ⟨rfl, _, (by omega : sk (M.1 107) L (yrA (M.1 107) L 0) ≤ 1000), rfl, ?_⟩⟩
        show -20 - (sAt (pYM M L) (sgp (M.1 107) L 59 (yrp (M.1 107) L 0))).1 106 7 = _
        rw [sAt, sI_same, v2, s2]
