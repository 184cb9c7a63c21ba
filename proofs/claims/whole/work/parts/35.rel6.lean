/-! a week, and the deeds -/
theorem sr_aAll {M : MM} {F : Nat → Int32} {g y o u : Nat} (h : SR M 1 F g y o u) : ∀ n, n + 1 ≤ g → SR (aAll M n) 1 (mch F n).1 g y o u ∧ Fr M (aAll M n)
  | 0, _ => ⟨h, fr_rf M⟩
  | n + 1, hn => by
    obtain ⟨ih, hf⟩ := sr_aAll h n (by omega)
    obtain ⟨h1, h2⟩ := sr_ass (w := n) ih (by omega)
    exact ⟨h1, fr_tr hf h2⟩
theorem sr_aA {M : MM} {F : Nat → Int32} {g y o u : Nat} (h : SR M 1 F g y o u) : SR (aAll M (g - 1)) 1 (mch F (g - 1)).1 g y o u ∧ Fr M (aAll M (g - 1)) := by
  rcases Nat.eq_zero_or_pos g with e | e
  · subst e
    exact ⟨h, fr_rf M⟩
  · exact sr_aAll h _ (by omega)
theorem sr_vA {M : MM} {F : Nat → Int32} {g y o u : Nat} (h : SR M 1 F g y o u) : SR (vAll M (g - 1)) 1 (gwF F (g - 1)) g y o u ∧ Fr M (vAll M (g - 1)) := by
  rcases Nat.eq_zero_or_pos g with e | e
  · subst e
    exact ⟨h, fr_rf M⟩
  · exact sr_vAll h _ (by omega)
theorem mod_up {z y : Nat} (hy : 2 ≤ y) : ((z + 1) % y = 0) ↔ (y - z % y = 1) := by
  have hl := Nat.mod_lt z (show 0 < y by omega)
  have e : (z + 1) % y = (z % y + 1) % y := by
    rw [Nat.add_mod, Nat.mod_eq_of_lt (show 1 < y by omega)]
  by_cases h : z % y + 1 = y
  · rw [e, h, Nat.mod_self]
    omega
  · rw [e, Nat.mod_eq_of_lt (by omega)]
    omega
theorem sr_pwk {M : MM} {F : Nat → Int32} {g y o u z : Nat} (h : SR M 1 F g y o u) (hz : F 3 = nI z) (hz9 : z < 9999) : SR (pwk g M) 1 (gosF g F).1 g y o u ∧ Fr M (pwk g M) ∧ (gosF g F).1 3 = nI (z + 1) := by
  obtain ⟨hv, hf⟩ := sr_vA h
  have hy2 := h.1.2.1
  have hy5 := h.1.2.2.1
  have h6 := h.1.1
  have e3 : gwF F (g - 1) 3 = nI z := by rw [gwF_lo F (by decide)]; exact hz
  have e1 : gwF F (g - 1) 1 = nI y := by rw [gwF_lo F (by decide)]; exact h.2.1.2.2.2.1
  have e4 : (vAll M (g - 1)).1 4 4 = nI z := (hv.2.2.2.1.2.2.2.2.2.1).trans e3
  have hw := sr_w (v := nI (z + 1)) ⟨z + 1, by omega, rfl⟩ hv
  have et : wtm (vAll M (g - 1)) = nI (y - z % y) := by rw [wtm_eq hv, utl_N e1 e3 (by omega) (by omega) (by omega)]
  have eg : gw3 F g = upd (gwF F (g - 1)) 3 (nI (z + 1)) := by rw [gw3, e3, nI_1]
  have er : rem (gw3 F g 3) (gw3 F g 1) = nI ((z + 1) % y) := by
    rw [eg, pk_us, upd_o (by decide), e1]
    exact pk_rem (by omega) (by omega) (by omega)
  have hml := Nat.mod_lt z (show 0 < y by omega)
  have hml2 := Nat.mod_lt (z + 1) (show 0 < y by omega)
  have h3 : (gosF g F).1 3 = nI (z + 1) := by rw [gosF_3 g h6, hz, nI_1]
  unfold pwk gosF
  rw [et, er, e4, nI_1, eg]
  by_cases q : y - z % y = 1
  · rw [if_pos (show nI (y - z % y) = 1 by rw [q]; rfl), if_pos (show nI ((z + 1) % y) = 0 by rw [(mod_up hy2).mpr q]; rfl)]
    obtain ⟨k1, k2⟩ := sr_aA hw
    refine ⟨k1, fr_tr (fr_s (by omega) hf) k2, ?_⟩
    rw [← eg]
    have := h3
    unfold gosF at this
    rw [er, if_pos (show nI ((z + 1) % y) = 0 by rw [(mod_up hy2).mpr q]; rfl)] at this
    exact this
  · have q1 : ¬ nI (y - z % y) = 1 := fun r => q ((nI_eq (a := y - z % y) (b := 1) (by omega) (by decide)).mp r)
    have q2 : ¬ nI ((z + 1) % y) = 0 := fun r => q ((mod_up hy2).mp ((nI_eq (a := (z + 1) % y) (b := 0) (by omega) (by decide)).mp r))
    rw [if_neg q1, if_neg q2]
    exact ⟨hw, fr_s (by omega) hf, pk_us (f := gwF F (g - 1)) (k := 3) (x := nI (z + 1))⟩
theorem wk_eq {M : MM} {F : Nat → Int32} {g y o u : Nat} (h : SR M 1 F g y o u) : M.1 4 4 = F 3 := h.2.2.2.1.2.2.2.2.2.1
theorem sr_wks {g y : Nat} : ∀ n {M : MM} {F : Nat → Int32} {o u z : Nat}, SR M 1 F g y o u → F 3 = nI z → z + n ≤ 9999 → (∃ o' u', SR (wks g n o u M) 1 (wkF g n u F) g y o' u') ∧ Fr M (wks g n o u M)
  | 0, M, F, o, u, z, h, _, _ => ⟨⟨o, u, h⟩, fr_rf M⟩
  | n + 1, M, F, o, u, z, h, hz, hn => by
    have h1 := sr_rem h
    obtain ⟨h2, f2, z2⟩ := sr_pwk h1 (by rw [rmF_lo _ _ (by decide)]; exact hz) (show z < 9999 by omega)
    obtain ⟨h3, f3⟩ := sr_wks n h2 z2 (by omega)
    exact ⟨h3, fr_tr (fr_tr fr_ad f2) f3⟩
theorem rel_id {M : MM} {g y o u L : Nat} (h : Rel M g y o u L) : M.1 121 = M.1 121 ∧ REL (rI M 121 (M.1 121)) := ⟨rfl, rel_no h⟩
theorem sim_weeks {M : MM} {g y o u L : Nat} {x : Int32} (h : Rel M g y o u L) :
    (sWk M g o u x).2 = (tWk (M.1 121) g u x).2 ∧ (sWk M g o u x).1.1 121 = M.1 121 ∧ REL (rI (sWk M g o u x).1 121 (tWk (M.1 121) g u x).1) := by
  have h6 := h.1.1.1
  unfold sWk tWk rfw
  rw [wk_eq h.1]
  by_cases h1 : wi x 1 52 = 0
  · rw [if_pos h1, if_pos h1, if_neg (by decide)]
    exact ⟨rfl, rel_id h⟩
  · rw [if_neg h1, if_neg h1]
    by_cases h2 : M.1 121 3 + x ≤ 9999
    · rw [if_pos h2, if_pos h2, if_pos rfl]
      obtain ⟨m, hm1, hm2, rfl⟩ := rng_of (a := 1) (b := 52) h1 (by decide) (by decide)
      rw [cl_nI (by omega)]
      obtain ⟨z, hz9, hz⟩ := h.1.2.2.2.1.2.2.2.2.2.2.2.1
      have hzm : z + m ≤ 9999 := by
        rw [hz, show nI z + nI m = nI (z + m) from nI_add z m, i32_le, nI_toInt (by omega)] at h2
        have : (9999 : Int32).toInt = 9999 := rfl
        omega
      obtain ⟨⟨o', u', h3⟩, f3⟩ := sr_wks (g := g) (y := y) m h.1 hz hzm
      exact ⟨sm_co h6 h3.2.2.2.1, rel_dof h f3 h3⟩
    · rw [if_neg h2, if_neg h2, if_neg (by decide)]
      exact ⟨rfl, rel_id h⟩
theorem bd_third {x : Int32} {n : Nat} (hn : n < 1000) (h : bd x n) : bd (x - x / 3) n := by
  obtain ⟨z, hz, rfl⟩ := h
  refine ⟨z - z / 3, by omega, ?_⟩
  rw [show nI z / 3 = nI (z / 3) from pk_div (d := 3) (by omega) (by decide) (by decide), pk_sub (by omega)]
theorem qbd {M : MM} {F : Nat → Int32} {g w : Nat} {wk : Int32} (hs : SG M 4 g F 16 wk) (hw : w < 5) : bd (F (27 + w)) 99 := by
  have := (hs.2.2.2.2.1 w hw).2
  rw [show 16 + (11 + w) = 27 + w by omega] at this
  exact this
theorem cbd {M : MM} {F : Nat → Int32} {g w : Nat} {wk : Int32} (hs : SG M 4 g F 16 wk) (hw : w < 5) : bd (F (22 + w)) 19 := by
  have := (hs.2.2.2.2.1 w hw).1
  rw [show 16 + (6 + w) = 22 + w by omega] at this
  exact this
theorem sim_sorry {M : MM} {g y o u L : Nat} {x : Int32} (h : Rel M g y o u L) :
    (sSy M g o u x).2 = (tSy (M.1 121) g u x).2 ∧ (sSy M g o u x).1.1 121 = M.1 121 ∧ REL (rI (sSy M g o u x).1 121 (tSy (M.1 121) g u x).1) := by
  have h6 := h.1.1.1
  unfold sSy tSy
  by_cases h1 : wi x 0 (nI (g - 1) - 1) = 0
  · rw [if_pos h1, if_pos h1]
    exact ⟨rfl, rel_id h⟩
  · rw [if_neg h1, if_neg h1]
    obtain ⟨w, hw, rfl⟩ := upto_of h1 (by omega)
    rw [cl_nI (by omega), wta_eq h.1.2.2.2.1 (show w + 1 < g by omega)]
    by_cases h2 : wtF (M.1 121) w ≤ 0
    · rw [if_pos h2, if_pos h2]
      have hr := sr_rem h.1
      have e6 := qu_eq hr.2.2.2.1 (show w + 1 < g by omega)
      obtain ⟨z, hz9, hz⟩ := h.1.2.2.2.1.2.2.2.2.2.2.2.1
      have e3 : rmF u (M.1 121) 3 = nI z := by rw [rmF_lo _ _ (by decide)]; exact hz
      have e4 : (adS o u M).1 4 4 = nI z := (wk_eq hr).trans e3
      have q1 := sr_q (v := rmF u (M.1 121) (27 + w) - rmF u (M.1 121) (27 + w) / 3) (show w + 1 < g by omega) (bd_third (by decide) (qbd hr.2.2.2.1 (by omega))) hr
      have q2 := sr_a (v := nI z) (a := nI (z + 3)) (show w + 1 < g by omega) (Or.inr ⟨z, hz9, rfl, rfl⟩) q1
      have eM : apo (adS o u M) w = sI (sI (adS o u M) 6 w (rmF u (M.1 121) (27 + w) - rmF u (M.1 121) (27 + w) / 3)) 7 w (nI (z + 3)) := by
        unfold apo
        rw [e6, e4, show nI z + 3 = nI (z + 3) from nI_add z 3]
      have eF : upd (sy0 (rmF u (M.1 121)) w) (32 + w) (sy0 (rmF u (M.1 121)) w 3) = upd (upd (rmF u (M.1 121)) (27 + w) (rmF u (M.1 121) (27 + w) - rmF u (M.1 121) (27 + w) / 3)) (32 + w) (nI z) := by
        rw [sy0, show upd (rmF u (M.1 121)) (27 + w) (rmF u (M.1 121) (27 + w) - rmF u (M.1 121) (27 + w) / 3) 3 = nI z from (upd_o (by omega)).trans e3]
      dsimp only
      rw [eM, eF]
      refine ⟨?_, rel_dof h (fr_s (by omega) (fr_s (by omega) fr_ad)) q2⟩
      rw [e6, upd_o (by omega), pk_us]
    · rw [if_neg h2, if_neg h2]
      exact ⟨rfl, rel_id h⟩
theorem sim_gossip {M : MM} {g y o u L : Nat} {x v : Int32} (h : Rel M g y o u L) :
    (sGo M g o u x v).2 = (tGo (M.1 121) g u x v).2 ∧ (sGo M g o u x v).1.1 121 = M.1 121 ∧ REL (rI (sGo M g o u x v).1 121 (tGo (M.1 121) g u x v).1) := by
  have h6 := h.1.1.1
  unfold sGo tGo
  by_cases h1 : wi x 0 (nI (g - 1) - 1) = 0
  · rw [if_pos h1, if_pos h1]
    exact ⟨rfl, rel_id h⟩
  · rw [if_neg h1, if_neg h1]
    by_cases h2 : wi v 1 9 = 0
    · rw [if_pos h2, if_pos h2]
      exact ⟨rfl, rel_id h⟩
    · rw [if_neg h2, if_neg h2]
      obtain ⟨w, hw, rfl⟩ := upto_of h1 (by omega)
      rw [cl_nI (by omega)]
      have hr := sr_rem h.1
      have e6 := qu_eq hr.2.2.2.1 (show w + 1 < g by omega)
      dsimp only
      unfold var goF
      rw [e6, pk_us]
      exact ⟨rfl, rel_dof h (fr_s (by omega) fr_ad) (sr_q (by omega) (asQ_bd _) hr)⟩
theorem pos0 {x : Int32} {n : Nat} (hn : n < 1000) (h : bd x n) : (0 < x) ↔ ¬ x = 0 := by
  obtain ⟨z, hz, rfl⟩ := h
  have e0 : (0 : Int32).toInt = 0 := rfl
  rw [i32_lt, i32_eq, e0, nI_toInt (by omega)]
  omega
theorem sim_lovers {M : MM} {g y o u L : Nat} {x : Int32} (h : Rel M g y o u L) :
    (sLv M g o u x).2 = (tLv (M.1 121) g u x).2 ∧ (sLv M g o u x).1.1 121 = M.1 121 ∧ REL (rI (sLv M g o u x).1 121 (tLv (M.1 121) g u x).1) := by
  have h6 := h.1.1.1
  unfold sLv tLv
  by_cases h1 : wi x 0 (nI (g - 1) - 1) = 0
  · rw [if_pos h1, if_pos h1]
    exact ⟨rfl, rel_id h⟩
  · rw [if_neg h1, if_neg h1]
    obtain ⟨w, hw, rfl⟩ := upto_of h1 (by omega)
    rw [cl_nI (by omega), co_eq h.1.2.2.2.1 (show w + 1 < g by omega)]
    have hc := cbd h.1.2.2.2.1 (show w < 5 by omega)
    by_cases h2 : M.1 121 (22 + w) = 0
    · rw [if_neg (fun q => (pos0 (by decide) hc).mp q h2), if_pos h2]
      exact ⟨rfl, rel_id h⟩
    · rw [if_pos ((pos0 (by decide) hc).mpr h2), if_neg h2]
      have hr := sr_rem h.1
      have e5 := co_eq hr.2.2.2.1 (show w + 1 < g by omega)
      dsimp only
      unfold lvF
      rw [e5, pk_us]
      have e22 : rmF u (M.1 121) (22 + w) = M.1 121 (22 + w) := rmF_lo _ _ (by omega)
      have hb : bd (rmF u (M.1 121) (22 + w) - 1) 19 := by
        rw [e22]
        obtain ⟨z, hz, e⟩ := hc
        have hz0 : 1 ≤ z := by
          rcases Nat.eq_zero_or_pos z with q | q
          · exact absurd (by rw [e, q]; rfl) h2
          · exact q
        exact ⟨z - 1, by omega, by rw [e]; exact nI_sub1 hz0⟩
      exact ⟨rfl, rel_dof h (fr_s (by omega) fr_ad) (sr_c (by omega) hb hr)⟩
theorem sr_clp {M : MM} {F : Nat → Int32} {g y o u w : Nat} (h : SR M 1 F g y o u) (hw : w + 1 < g) : SR (clp M w) 1 (flF F w) g y o u ∧ Fr M (clp M w) := by
  have q1 := sr_c (v := 0) hw ⟨0, by omega, rfl⟩ h
  have e6 := qu_eq q1.2.2.2.1 hw
  refine ⟨?_, fr_s (by omega) (fr_s (by omega) (fr_rf M))⟩
  unfold clp var flF
  rw [e6]
  exact sr_q hw (asQ_bd _) q1
theorem sim_falls {M : MM} {g y o u L : Nat} {x : Int32} (h : Rel M g y o u L) :
    (sFl M g o u x).2 = (tFl (M.1 121) g u x).2 ∧ (sFl M g o u x).1.1 121 = M.1 121 ∧ REL (rI (sFl M g o u x).1 121 (tFl (M.1 121) g u x).1) := by
  have h6 := h.1.1.1
  unfold sFl tFl
  by_cases h1 : wi x 0 (nI (g - 1) - 1) = 0
  · rw [if_pos h1, if_pos h1]
    exact ⟨rfl, rel_id h⟩
  · rw [if_neg h1, if_neg h1]
    obtain ⟨w, hw, rfl⟩ := upto_of h1 (by omega)
    rw [cl_nI (by omega), co_eq h.1.2.2.2.1 (show w + 1 < g by omega)]
    have hc := cbd h.1.2.2.2.1 (show w < 5 by omega)
    by_cases h2 : M.1 121 (22 + w) = 0
    · rw [if_neg (fun q => (pos0 (by decide) hc).mp q h2), if_pos h2]
      exact ⟨rfl, rel_id h⟩
    · rw [if_pos ((pos0 (by decide) hc).mpr h2), if_neg h2]
      have hr := sr_rem h.1
      have e5 := co_eq hr.2.2.2.1 (show w + 1 < g by omega)
      obtain ⟨k1, k2⟩ := sr_clp hr (show w + 1 < g by omega)
      dsimp only
      rw [e5, rmF_lo _ _ (by omega)]
      exact ⟨rfl, rel_dof h (fr_tr fr_ad k2) k1⟩
set_option maxRecDepth 100000 in
set_option maxHeartbeats 4000000 in
theorem rt_eq : ∀ m : Nat, m < 401 → -(rtO (nI m) 20 1 0) = 0 - rtR (nI m) 21 0 := by decide +kernel
theorem sim_gift {M : MM} {g y o u L : Nat} {x b v : Int32} (h : Rel M g y o u L) :
    (sGf M g o u x b v).2 = (tGf (M.1 121) g u x b v).2 ∧ (sGf M g o u x b v).1.1 121 = M.1 121 ∧ REL (rI (sGf M g o u x b v).1 121 (tGf (M.1 121) g u x b v).1) := by
  have h6 := h.1.1.1
  unfold sGf tGf
  by_cases h1 : wi x 0 (nI (g - 1) - 1) = 0
  · rw [if_pos h1, if_pos h1]
    exact ⟨rfl, rel_id h⟩
  · rw [if_neg h1, if_neg h1]
    by_cases h2 : wi b 0 1 = 0
    · rw [if_pos h2, if_pos h2]
      exact ⟨rfl, rel_id h⟩
    · rw [if_neg h2, if_neg h2]
      by_cases h3 : wi v 1 400 = 0
      · rw [if_pos h3, if_pos h3]
        exact ⟨rfl, rel_id h⟩
      · rw [if_neg h3, if_neg h3]
        obtain ⟨w, hw, rfl⟩ := upto_of h1 (by omega)
        obtain ⟨b2, hb1, hb2, rfl⟩ := rng_of (a := 0) (b := 1) h2 (by decide) (by decide)
        obtain ⟨m, hm1, hm2, rfl⟩ := rng_of (a := 1) (b := 400) h3 (by decide) (by decide)
        rw [cl_nI (by omega), cl_nI (by omega), rt_eq m (by omega)]
        have hr := sr_rem h.1
        have e8 : (adS o u M).1 8 (w + b2) = rmF u (M.1 121) (16 + (w + b2)) := hr.2.2.2.1.2.1 (w + b2) (by omega)
        have q1 := sr_p (v := rmF u (M.1 121) (16 + (w + b2)) + nI m) (show w + b2 < g by omega) hr
        have e6 := qu_eq q1.2.2.2.1 (show w + 1 < g by omega)
        have eM : gfM M o u w b2 (nI m) = sI (adS o u M) 8 (w + b2) (rmF u (M.1 121) (16 + (w + b2)) + nI m) := by rw [gfM, e8]
        have eF : gfF (M.1 121) u w b2 (nI m) = upd (rmF u (M.1 121)) (16 + (w + b2)) (rmF u (M.1 121) (16 + (w + b2)) + nI m) := by rw [gfF, Nat.add_assoc]
        have es : ∀ a r : Int32, a + (0 - r) = a - r := fun a r => by rw [Int32.sub_eq_add_neg, Int32.sub_eq_add_neg, Int32.zero_add]
        dsimp only
        unfold var gfG
        rw [eM, eF, e6, pk_us, es]
        exact ⟨rfl, rel_dof h (fr_s (by omega) (fr_s (by omega) fr_ad)) (sr_q (by omega) (asQ_bd _) q1)⟩
