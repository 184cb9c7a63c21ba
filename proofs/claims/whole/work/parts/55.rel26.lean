/-! street -/
theorem sim_street {M : MM} {g y o u L : Nat} (h : Rel M g y o u L) : ∃ t, (¬ (prs M L).2 ≤ 0 → (prs M L).1.1 106 5 = nI t ∧ t ≤ 6) ∧ (sSt M L t).1.1 120 6 = nI L ∧ (sSt M L t).2 = (tSt (sSt M L t).1 L ((sSt M L t).1.1 123)).2 ∧ REL (tSt (sSt M L t).1 L ((sSt M L t).1.1 123)).1 := by
  obtain ⟨l60, t1, t2, t3⟩ := h.2.1
  obtain ⟨hf, hc⟩ := prs_sim (k := M.1 123) l60 t3
  have fr : ∀ a, a ≠ 106 → a ≠ 108 → a ≠ 109 → a ≠ 110 → (sS1 M L).1 a = M.1 a := fun a h1 h2 h3 h4 => by
    rw [sS1, sI_out h1]
    exact hf.1 a h1 h2 h3 h4
  have f120 := fr 120 (by decide) (by decide) (by decide) (by decide)
  have f121 := fr 121 (by decide) (by decide) (by decide) (by decide)
  have f123 := fr 123 (by decide) (by decide) (by decide) (by decide)
  have f125 := fr 125 (by decide) (by decide) (by decide) (by decide)
  have ht0 : tRd (sS1 M L) L (M.1 123) = tRd M L (M.1 123) := tRd_cg f120 f121 f125
  rcases hc with ⟨c1, z, hz, c2, c3⟩ | ⟨c1, t, yy, ht1, ht6, hy1, hy2, c2, c3, hI⟩
  · have hle : (prs M L).2 ≤ 0 := by rw [c3]; exact neg_le z (by omega)
    refine ⟨0, fun q => absurd hle q, ?_⟩
    rw [sSt, if_pos hle]
    dsimp only
    rw [f123, f120]
    refine ⟨t2, ?_, ?_⟩
    · rw [tSt, if_neg (fun q => q (by rw [ht0]; exact c1)), ht0, c2, c3]
    · rw [tSt, if_neg (fun q => q (by rw [ht0]; exact c1))]
      exact rel_t0 h hf
  · have hn : ¬ (prs M L).2 ≤ 0 := by rw [c2]; exact fun q => absurd (nI_le0 q (by omega)) (by omega)
    refine ⟨t, fun _ => ⟨hI.2.1, ht6⟩, ?_⟩
    rw [sSt, if_neg hn]
    dsimp only
    have g1 : ∀ a, a < 1 ∨ 50 < a → (ly2 (ly1 (ly0 (sS1 M L)) t) (t - 1)).1 a = (sS1 M L).1 a := fun a ha => by
      rw [ly2_fr _ (by omega), ly1_out _ ha, ly0, sI_out (by omega), sI_out (by omega), sI_out (by omega)]
    have g120 := (g1 120 (by decide)).trans f120
    have g121 := (g1 121 (by decide)).trans f121
    have g123 := (g1 123 (by decide)).trans f123
    have g125 := (g1 125 (by decide)).trans f125
    rw [g123, g120]
    generalize hM1 : ly2 (ly1 (ly0 (sS1 M L)) t) (t - 1) = M1 at *
    have ht : tRd M1 L (M.1 123) = tRd M L (M.1 123) := tRd_cg g120 g121 g125
    have hok : ¬ (tRd M1 L (M.1 123)).2.2.2.2 = 0 := by rw [ht, c1]; exact one_nz
    refine ⟨t2, ?_, ?_⟩
    · rw [tSt, if_pos hok, ht, c2]
      exact hI.1.symm
    · rw [tSt, if_pos hok, ht]
      obtain ⟨g', y', o', u', L', hR⟩ := rel_t0 (k := M.1 123) h hf
      have hs : SR M1 1 (eD (tRd M L (M.1 123)).1 (upd (rdD M (M.1 123)) 1 (nI yy)) t (t - 1)) t yy 0 0 := by
        obtain ⟨_, ⟨a1, a2, a3, a4, a5, a6⟩, _, ⟨_, _, _, _, _, _, s8, _, s10⟩, _⟩ := h.1
        have hb : SR (fgt (ly0 (sS1 M L))) 1 (upd (rdD M (M.1 123)) 1 (nI yy)) 0 yy 0 0 := by
          refine sr_beg ⟨hy1, hy2⟩ rfl ?_ ?_ a6 rfl ?_ s10 rfl rfl
          · show (prs M L).1.1 106 6 = nI yy
            exact c3
          · show (prs M L).1.1 1 4 = _
            rw [hf.1 1 (by decide) (by decide) (by decide) (by decide)]
            exact a5
          · show (prs M L).1.1 4 5 = _
            rw [hf.1 4 (by decide) (by decide) (by decide) (by decide)]
            exact s8
        have e1 : ly1 (ly0 (sS1 M L)) t = ly1 (fgt (ly0 (sS1 M L))) t := by
          obtain ⟨t', rfl⟩ : ∃ t', t = t' + 1 := ⟨t - 1, by omega⟩
          exact ly1_fgt _ _
        rw [← hM1, e1]
        have v38 : upd (rdD M (M.1 123)) 1 (nI yy) 38 = 0 := by rw [upd_o (by decide), rdD, bgF_v (by decide) (by decide) (by decide) (by decide)]; decide
        have v0 : upd (rdD M (M.1 123)) 1 (nI yy) 0 = 0 := by rw [upd_o (by decide), rdD, bgF_0]
        refine sr_ly2 ht6 (sr_ly1 ht6 v38 v0 hb (fun i hi => ?_) t (Nat.le_refl _)) (fun i hi => ?_) (t - 1) (Nat.le_refl _)
        · exact hI.2.2.1 i hi
        · rw [ly1_out _ (by omega)]
          exact hI.2.2.2.1 i hi
      refine rel_do hR (M1 := tS0 M1 L (M.1 123)) (fun a ha => tS0_eq (ht.trans ht0.symm) (g120.trans f120.symm) (g1 a ha)) ?_ (sr_fr (M := M1) (fun a h1 h2 => tS0_fr _ _ _ (by omega) (by omega)) (fun a ha => ?_) hs)
      · show M1.2 = (prs M L).1.2
        rw [← hM1, ly2_2, ly1_2]
        rfl
      · rw [cpD_in _ _ 223 ha]
        by_cases e0 : a = 0
        · subst e0
          exact hI.1
        · by_cases c : (4 ≤ a ∧ a < 4 + t) ∨ (10 ≤ a ∧ a < 10 + t) ∨ (27 ≤ a ∧ a < 27 + (t - 1))
          · rw [eD_in e0 c]
          · rw [eD_out e0 c]
            exact hI.2.2.2.2.1 a (by omega) (by omega) (by omega) (by omega)
