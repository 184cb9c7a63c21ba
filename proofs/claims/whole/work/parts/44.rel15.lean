/-! settles, film -/
theorem sim_settles {M : MM} {g y o u L : Nat} {k : Nat → Int32} (h : Rel M g y o u L) : (cmh g 21 (cm0 M) (wtm M) 0).2 = (stl g 21 0 (lyF (M.1 121) k)).2 ∧ (cmh g 21 (cm0 M) (wtm M) 0).1.1 121 = M.1 121 ∧ REL (rI (cmh g 21 (cm0 M) (wtm M) 0).1 122 (stl g 21 0 (lyF (M.1 121) k)).1) := by
  have h6 := h.1.1.1
  obtain ⟨z, z9, hz⟩ := wk_ex h.1
  obtain ⟨e1, e2, e3⟩ := un_ex h.1 hz z9
  have hs := h.1.2.2.2.1
  have co : ∀ a, a ≠ 102 → a ≠ 103 → (cm0 M).1 a = M.1 a := fun a a1 a2 => by
    unfold cm0
    dsimp only
    rw [rI_ne _ _ a2, rI_ne _ _ a1]
  have c2 : ∀ w, w < 5 → (cm0 M).1 102 w = M.1 5 w := fun w hw => by
    unfold cm0
    dsimp only
    rw [rI_ne _ _ (by decide), rI_at, pk_cpy_in (by omega) (by omega)]
    simp
  have c3 : ∀ w, w < 5 → (cm0 M).1 103 w = M.1 6 w := fun w hw => by
    unfold cm0
    dsimp only
    rw [rI_at, rI_ne _ _ (by decide), pk_cpy_in (by omega) (by omega)]
    simp
  rw [e3]
  obtain ⟨r1, r2, r3⟩ := set_eq h.1 21 0 (cm0 M) (lyF (M.1 121) k) z (by omega) (fun a ha => co a (by omega) (by omega)) (fun a _ ha => lyF_in _ _ (by omega)) (by rw [lyF_in _ _ (by decide)]; exact hz) (fun w hw => by
    rw [c2 w (by omega), c3 w (by omega), lyF_in _ _ (by omega), lyF_in _ _ (by omega)]
    exact ⟨co_eq hs hw, qu_eq hs hw, cbd hs (by omega), qbd hs (by omega)⟩)
  have r4 : ∀ a, a ≠ 102 → a ≠ 103 → (cmh g 21 (cm0 M) (nI (y - z % y)) 0).1.1 a = M.1 a := fun a a1 a2 => (r2 a a1 a2).trans (co a a1 a2)
  exact ⟨r1, r4 _ (by decide) (by decide), rel_ft h (fun a ha => by rw [rI_ne _ _ (by omega)]; exact r4 a (by omega) (by omega)) r3⟩
theorem flH_eq (f h : Nat → Int32) (g : Nat) : ∀ j, flH f h g j = goN g j (lyF f h)
  | 0 => rfl
  | j + 1 => by
    rw [flH, flH_eq f h g j, goN_succ g j]
    rfl
theorem fl_eq {M : MM} {F k : Nat → Int32} {g y o u w s a : Nat} {l : Int32} (h : SR M 1 F g y o u) (hw : w + 1 < g) (hl : M.1 (112 + 2 * s) 2 = l) (hr : ∀ i, i < 24 → M.2 (112 + 2 * s + 1) i = M.2 128 (24 * s + i)) : ∀ j, a + j ≤ 24 → (∀ i, i < 24 → (flM w (112 + 2 * s) a M j).2 (112 + 2 * s + 1) i = flL F k g w l (24 * s + a) (M.2 128) j (24 * s + i)) ∧ (∀ c, c ≠ 112 + 2 * s + 1 → (flM w (112 + 2 * s) a M j).2 c = M.2 c) ∧ (∀ p, (p < 24 * s ∨ 24 * s + 24 ≤ p) → flL F k g w l (24 * s + a) (M.2 128) j p = M.2 128 p)
  | 0, _ => ⟨hr, fun _ _ => rfl, fun _ _ => rfl⟩
  | j + 1, hj => by
    obtain ⟨i1, i2, i3⟩ := fl_eq (k := k) (a := a) h hw hl hr j (by omega)
    have e1 := flM_1 w (112 + 2 * s) a M j
    have hs : SR (flM w (112 + 2 * s) a M j) 1 F g y o u := sr_fr (fun c _ _ => by rw [e1]) (fun _ _ => rfl) h
    have eb := bhd_eq (k := k) hs hw (show j + 1 ≤ 104 by omega) 1
    rw [if_neg (by decide)] at eb
    rw [flM, flL, ptS, eb, flH_eq, e1, hl]
    refine ⟨fun i hi => ?_, fun c hc => ?_, fun p hp => ?_⟩
    · show (if 112 + 2 * s + 1 = 112 + 2 * s + 1 then vp_updL ((flM w (112 + 2 * s) a M j).2 (112 + 2 * s + 1)) (a + j) _ else _) i = _
      rw [if_pos rfl]
      by_cases e : i = a + j
      · subst e
        rw [pk_uLs, show 24 * s + (a + j) = 24 * s + a + j by omega, pk_uLs]
      · rw [pk_uLn e, pk_uLn (by omega)]
        exact i1 i hi
    · show (if c = 112 + 2 * s + 1 then _ else (flM w (112 + 2 * s) a M j).2 c) = _
      rw [if_neg hc]
      exact i2 c hc
    · rw [pk_uLn (by omega)]
      exact i3 p hp
theorem rf_ok {M : MM} {k : Nat} {l x z : Int32} (h3 : rfS M k l x z = 0) : ¬ M.1 k 1 = 0 ∧ M.1 k 2 = l := by
  unfold rfS at h3
  by_cases q1 : M.1 k 1 = 0
  · rw [if_pos q1] at h3; exact absurd h3 (by decide)
  · rw [if_neg q1] at h3
    by_cases q2 : M.1 k 2 = l
    · exact ⟨q1, q2⟩
    · rw [if_pos q2] at h3; exact absurd h3 (by decide)
theorem sim_film {M : MM} {g y o u L : Nat} {x z v l a : Int32} {k : Nat → Int32} (h : Rel M g y o u L) :
    (sFm M g x z v l a).2 = (tFm (sFm M g x z v l a).1 ((sFm M g x z v l a).1.2 128) k g x z v l a).2 ∧ (sFm M g x z v l a).1.1 = M.1 ∧ REL (tFm (sFm M g x z v l a).1 ((sFm M g x z v l a).1.2 128) k g x z v l a).1 := by
  have h6 := h.1.1.1
  unfold sFm tFm
  by_cases h0 : wi x 0 (nI (g - 1) - 1) = 0
  · rw [if_pos h0, if_pos h0, rL_id]
    exact ⟨rfl, rfl, rel_122 h⟩
  · rw [if_neg h0, if_neg h0]
    by_cases hz0 : wi z 1 24 = 0
    · rw [if_pos hz0, if_pos hz0, rL_id]
      exact ⟨rfl, rfl, rel_122 h⟩
    · rw [if_neg hz0, if_neg hz0]
      by_cases h1 : wi v 0 3 = 0
      · rw [if_pos h1, if_pos (show bshS v l = 0 from if_pos h1), rL_id]
        exact ⟨rfl, rfl, rel_122 h⟩
      · rw [if_neg h1]
        by_cases h2 : wi l 0 3 = 0
        · rw [if_pos h2, if_pos (show bshS v l = 0 from (if_neg h1).trans (if_pos h2)), rL_id]
          exact ⟨rfl, rfl, rel_122 h⟩
        · have hb : ¬ bshS v l = 0 := by rw [show bshS v l = 1 from (if_neg h1).trans (if_neg h2)]; decide
          rw [if_neg h2, if_neg hb]
          obtain ⟨w, hw, rfl⟩ := upto_of h0 (by omega)
          obtain ⟨b0, hb0, hb1, rfl⟩ := rng_of (a := 1) (b := 24) hz0 (by decide) (by decide)
          obtain ⟨s, hs0, hs1, rfl⟩ := rng_of (a := 0) (b := 3) h1 (by decide) (by decide)
          have hs : s < 4 := by omega
          have hzn : ¬ nI b0 < 0 := nI_nlt (b := 0) (by omega) (by omega)
          rw [cl_nI (by omega), cl_nI (by omega), cl_nI (by omega)]
          by_cases h3 : rfS M (112 + 2 * s) l a (nI b0) = 0
          · have h4 := (rf_0 (h.2.2.1 s hs) hzn).mp h3
            rw [if_pos h3]
            obtain ⟨a2, b2, hab, rfl, hb2⟩ := fnd_ok (shr_N h.2.2.1 s hs) hzn h4
            have hb3 : b0 = b2 := (nI_eq (by omega) (by omega)).mp hb2
            subst hb3
            rw [cl_nI (by omega)]
            obtain ⟨c1, c2⟩ := rf_ok h3
            obtain ⟨_, hp⟩ := h.2.2.1 s hs
            rcases hp with ⟨p1, _⟩ | ⟨p1, p2, p3, p4⟩
            · exact absurd p1 c1
            · obtain ⟨k1, k2, k3⟩ := fl_eq (k := k) (a := a2) h.1 (show w + 1 < g by omega) c2 p4 b0 (by omega)
              dsimp only
              have e1 := flM_1 w (112 + 2 * s) a2 M b0
              rw [e1, if_pos h4, k2 128 (by omega)]
              refine ⟨rfl, rfl, rel_sh h (fun c hc => ?_) (fun c q1 q2 q3 => ?_) (fun t ht => ?_)⟩
              · rw [rI_ne _ _ (by omega), rL_1, e1]
              · rw [rI_ne _ _ q3, rL_1, e1]
              · obtain ⟨l0, hp2⟩ := h.2.2.1 t ht
                unfold ShR
                rw [rI_ne _ _ (show 112 + 2 * t ≠ 122 by omega), rI_ne _ _ (show (127 : Nat) ≠ 122 by decide), rI_ne _ _ (show (126 : Nat) ≠ 122 by decide), rL_1, e1, rIL_at]
                have e2 : (rI (rL (flM w (112 + 2 * s) a2 M b0) 128 (flL (M.1 121) k g w l (24 * s + a2) (M.2 128) b0)) 122 (flH (M.1 121) k g b0)).2 (112 + 2 * t + 1) = (flM w (112 + 2 * s) a2 M b0).2 (112 + 2 * t + 1) := by
                  show (if 112 + 2 * t + 1 = 128 then _ else _) = _
                  rw [if_neg (by omega)]
                rw [e2]
                refine ⟨l0, ?_⟩
                rcases hp2 with p | ⟨r1, r2, r3, r4⟩
                · exact Or.inl p
                · refine Or.inr ⟨r1, r2, r3, fun i hi => ?_⟩
                  by_cases e : t = s
                  · subst e
                    exact k1 i hi
                  · rw [k2 _ (by omega), k3 _ (by omega)]
                    exact r4 i hi
          · have h4 : ¬ 0 ≤ fnd (M.1 126) (M.1 127) s l a (nI b0) := fun q => h3 ((rf_0 (h.2.2.1 s hs) hzn).mpr q)
            rw [if_neg h3]
            dsimp only
            rw [if_neg h4, rL_id]
            exact ⟨rf_eq (h.2.2.1 s hs) hzn, rfl, rel_122 h⟩
