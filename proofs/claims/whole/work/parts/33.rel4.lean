/-! noise, rule, seed, of, wall, count -/
theorem sr_hd {M M' : MM} {F F' : Nat → Int32} {g y y' o u : Nat} (h : SR M 1 F g y o u) (e : ∀ a, 4 ≤ a → a ≤ 50 → M'.1 a = M.1 a) (eF : ∀ j, j = 3 ∨ 16 ≤ j → F' j = F j) (hy : 2 ≤ y' ∧ y' ≤ 52)
    (hd : M'.1 1 2 = nI g ∧ F' 0 = nI g ∧ M'.1 1 3 = nI y' ∧ F' 1 = nI y' ∧ M'.1 1 4 = F' 2 ∧ bd (F' 2) 9)
    (hk : ∀ i, i < g → M'.1 2 i = F' (4 + i) ∧ M'.1 3 i = F' (10 + i) ∧ bd (F' (4 + i)) 4 ∧ bd (F' (10 + i)) 9) : SR M' 1 F' g y' o u := by
  obtain ⟨⟨h6, y2, y52, o8, u8⟩, _, _, hs, ⟨p1, p2, p3⟩, hu⟩ := h
  refine ⟨⟨h6, hy.1, hy.2, o8, u8⟩, hd, hk, ?_, ⟨?_, ?_, ?_⟩, fun i hi => ?_⟩
  · exact sg_fr h6 (fun a ha => e _ (by omega) (by omega)) (fun j hj => eF _ (by omega)) (eF _ (by omega)) hs
  · rw [e _ (by omega) (by omega)]; exact p1
  · rw [e _ (by omega) (by omega)]; exact p2
  · rw [eF _ (by omega)]; exact p3
  · have hm := Nat.mod_lt (o + i) (show 0 < 8 by decide)
    exact sg_fr h6 (fun a ha => e _ (by omega) (by omega)) (fun j hj => eF _ (by omega)) (eF _ (by omega)) (hu i hi)
theorem sr_st {M M' : MM} {F F' : Nat → Int32} {g y o u : Nat} (h : SR M 1 F g y o u) (e : ∀ a, (1 ≤ a ∧ a < 4) ∨ (9 ≤ a ∧ a ≤ 50) → M'.1 a = M.1 a) (eF : ∀ j, (j < 16 ∧ j ≠ 3) ∨ 38 ≤ j → F' j = F j) (hs : SG M' 4 g F' 16 (F' 3)) : SR M' 1 F' g y o u := by
  obtain ⟨⟨h6, y2, y52, o8, u8⟩, ⟨a1, a2, a3, a4, a5, a6⟩, hk, _, ⟨p1, p2, p3⟩, hu⟩ := h
  refine ⟨⟨h6, y2, y52, o8, u8⟩, ⟨?_, ?_, ?_, ?_, ?_, ?_⟩, fun i hi => ?_, hs, ⟨?_, ?_, ?_⟩, fun i hi => ?_⟩
  · rw [e _ (by omega)]; exact a1
  · rw [eF _ (by omega)]; exact a2
  · rw [e _ (by omega)]; exact a3
  · rw [eF _ (by omega)]; exact a4
  · rw [e _ (by omega), eF _ (by omega)]; exact a5
  · rw [eF _ (by omega)]; exact a6
  · rw [e _ (by omega), e _ (by omega), eF _ (by omega), eF _ (by omega)]; exact hk i hi
  · rw [e _ (by omega)]; exact p1
  · rw [e _ (by omega)]; exact p2
  · rw [eF _ (by omega)]; exact p3
  · have hm := Nat.mod_lt (o + i) (show 0 < 8 by decide)
    exact sg_fr h6 (fun a ha => e _ (by omega)) (fun j hj => eF _ (by omega)) (eF _ (by omega)) (hu i hi)
theorem sim_noise {M : MM} {g y o u L : Nat} {x v : Int32} (h : Rel M g y o u L) :
    (sNs M g x v).2 = (tNs (M.1 121) g x v).2 ∧ (sNs M g x v).1.1 121 = M.1 121 ∧ REL (rI (sNs M g x v).1 121 (tNs (M.1 121) g x v).1) := by
  have hg6 : g ≤ 6 := h.1.1.1
  by_cases h1 : wi x 0 (nI g - 1) = 0
  · rw [sNs, tNs, if_pos h1, if_pos h1]
    exact ⟨rfl, rfl, rel_no h⟩
  · by_cases h2 : wi v 0 9 = 0
    · rw [sNs, tNs, if_neg h1, if_neg h1, if_pos h2, if_pos h2]
      exact ⟨rfl, rfl, rel_no h⟩
    · rw [sNs, tNs, if_neg h1, if_neg h1, if_neg h2, if_neg h2]
      obtain ⟨z, hz, rfl⟩ := upto_of h1 (by omega)
      rw [cl_nI (by omega)]
      obtain ⟨hd, ⟨a1, a2, a3, a4, a5, a6⟩, hk, _⟩ := h.1
      dsimp only
      refine ⟨(hk z hz).2.1, sI_out (by decide), rel_do h (fun a ha => sI_out (by omega)) rfl (sr_hd h.1 (fun a _ _ => sI_out (by omega)) (fun j hj => upd_o (by omega)) ⟨hd.2.1, hd.2.2.1⟩ ⟨?_, ?_, ?_, ?_, ?_, ?_⟩ (fun i hi => ?_))⟩
      · rw [sI_out (by decide)]; exact a1
      · rw [upd_o (by omega)]; exact a2
      · rw [sI_out (by decide)]; exact a3
      · rw [upd_o (by omega)]; exact a4
      · rw [sI_out (by decide), upd_o (by omega)]; exact a5
      · rw [upd_o (by omega)]; exact a6
      · have hh := hk i hi
        rw [sI_out (by decide), upd_o (by omega)]
        by_cases e : i = z
        · subst e
          rw [sI_same, pk_us]
          exact ⟨hh.1, rfl, hh.2.2.1, bd_of (n := 9) (by decide) h2⟩
        · rw [sI_oth e, upd_o (by omega)]
          exact hh
theorem sim_rule {M : MM} {g y o u L : Nat} {x v : Int32} (h : Rel M g y o u L) :
    (sRl M x v).2 = (tRl (M.1 121) x v).2 ∧ (sRl M x v).1.1 121 = M.1 121 ∧ REL (rI (sRl M x v).1 121 (tRl (M.1 121) x v).1) := by
  obtain ⟨hd, ⟨a1, a2, a3, a4, a5, a6⟩, hk, _⟩ := h.1
  by_cases h1 : ¬ x = 0 ∨ wi v 2 52 = 0
  · by_cases h2 : ¬ x = 1 ∨ wi v 0 9 = 0
    · rw [sRl, tRl, if_pos h1, if_pos h1, if_pos h2, if_pos h2]
      exact ⟨rfl, rfl, rel_no h⟩
    · rw [sRl, tRl, if_pos h1, if_pos h1, if_neg h2, if_neg h2]
      have hv : ¬ wi v 0 9 = 0 := fun q => h2 (Or.inr q)
      dsimp only
      refine ⟨a5, sI_out (by decide), rel_do h (fun a ha => sI_out (by omega)) rfl (sr_hd h.1 (fun a _ _ => sI_out (by omega)) (fun j hj => upd_o (by omega)) ⟨hd.2.1, hd.2.2.1⟩ ⟨?_, ?_, ?_, ?_, ?_, ?_⟩ (fun i hi => ?_))⟩
      · rw [sI_oth (by decide)]; exact a1
      · rw [upd_o (by omega)]; exact a2
      · rw [sI_oth (by decide)]; exact a3
      · rw [upd_o (by omega)]; exact a4
      · rw [sI_same, pk_us]
      · rw [pk_us]; exact bd_of (n := 9) (by decide) hv
      · rw [sI_out (by decide), sI_out (by decide), upd_o (by omega), upd_o (by omega)]; exact hk i hi
  · rw [sRl, tRl, if_neg h1, if_neg h1]
    have hv : ¬ wi v 2 52 = 0 := fun q => h1 (Or.inr q)
    obtain ⟨k, hk1, hk2, rfl⟩ := rng_of (a := 2) (b := 52) hv (by decide) (by decide)
    dsimp only
    refine ⟨a3.trans a4.symm, sI_out (by decide), rel_do h (fun a ha => sI_out (by omega)) rfl (sr_hd (y' := k) h.1 (fun a _ _ => sI_out (by omega)) (fun j hj => upd_o (by omega)) ⟨hk1, hk2⟩ ⟨?_, ?_, ?_, ?_, ?_, ?_⟩ (fun i hi => ?_))⟩
    · rw [sI_oth (by decide)]; exact a1
    · rw [upd_o (by omega)]; exact a2
    · rw [sI_same]
    · rw [pk_us]
    · rw [sI_oth (by decide), upd_o (by omega)]; exact a5
    · rw [upd_o (by omega)]; exact a6
    · rw [sI_out (by decide), sI_out (by decide), upd_o (by omega), upd_o (by omega)]; exact hk i hi
theorem sim_seed {M : MM} {g y o u L : Nat} {x : Int32} (h : Rel M g y o u L) :
    (sSd M x).2 = (tSd (M.1 121) x).2 ∧ (sSd M x).1.1 121 = M.1 121 ∧ REL (rI (sSd M x).1 121 (tSd (M.1 121) x).1) := by
  by_cases h1 : 0 ≤ x
  · rw [sSd, tSd, if_pos h1, if_pos h1]
    obtain ⟨s1, s2, s3, s4, s5, s7, s8, s9, s10⟩ := h.1.2.2.2.1
    dsimp only
    refine ⟨s8, sI_out (by decide), rel_do h (fun a ha => sI_out (by omega)) rfl (sr_st h.1 (fun a ha => sI_out (by omega)) (fun j hj => upd_o (by omega)) ⟨fun i hi => ?_, fun i hi => ?_, fun i hi hgi => ?_, fun i hi hgi => ?_, fun i hi => ?_, ?_, ?_, ?_, ?_⟩)⟩
    · have hg := h.1.1.1
      rw [sI_out (by decide), sI_out (by decide), sI_out (by decide), upd_o (by omega), upd_o (by omega), upd_o (by omega)]
      exact s1 i hi
    · have hg := h.1.1.1
      rw [sI_out (by decide), upd_o (by omega)]
      exact s2 i hi
    · rw [upd_o (by omega), upd_o (by omega), upd_o (by omega)]
      exact s3 i hi hgi
    · rw [upd_o (by omega)]
      exact s4 i hi hgi
    · rw [upd_o (by omega), upd_o (by omega)]
      exact s5 i hi
    · rw [sI_oth (by decide), upd_o (by omega)]
      exact s7
    · rw [sI_same]
      exact (pk_us (f := M.1 121) (k := 37) (x := x)).symm
    · rw [upd_o (by omega)]
      exact s9
    · rw [show (16 : Nat) + 21 = 37 from rfl, pk_us]
      exact h1
  · rw [sSd, tSd, if_neg h1, if_neg h1]
    exact ⟨rfl, rfl, rel_no h⟩
theorem wta_eq {M : MM} {F : Nat → Int32} {g w : Nat} (hs : SG M 4 g F 16 (F 3)) (hw : w + 1 < g) : wta M w = wtF F w := by
  obtain ⟨s1, s2, s3, s4, s5, s7, s8, ⟨z, hz, hzw⟩, s10⟩ := hs
  have ha := (s1 w hw).2.2
  have e7 : M.1 4 4 = nI z := s7.trans hzw
  have e32 : (16 : Nat) + (16 + w) = 32 + w := by omega
  rw [e32] at ha
  unfold wta wtF
  rw [e7, hzw]
  rcases ha with ⟨h1, h2⟩ | ⟨a, ha9, h1, h2⟩
  · rw [if_pos h1, show M.1 7 w = 0 from h2]
    refine if_neg ?_
    rw [i32_lt, show (0 : Int32) - nI z = nI 0 - nI z from rfl, pk_sub_toInt (by decide) (by omega)]
    have : (0 : Int32).toInt = 0 := rfl
    omega
  · have hn : ¬ nI a = -99 := fun q => by
      have := congrArg Int32.toInt q
      rw [nI_toInt (by omega)] at this
      have e : (-99 : Int32).toInt = -99 := rfl
      omega
    rw [h1, if_neg hn, show M.1 7 w = nI (a + 3) from h2, show nI a + 3 = nI (a + 3) from nI_add a 3]
    have e0 : (0 : Int32).toInt = 0 := rfl
    have ed : (nI (a + 3) - nI z).toInt = ((a + 3 : Nat) : Int) - z := pk_sub_toInt (by omega) (by omega)
    by_cases q : 0 < nI (a + 3) - nI z
    · rw [if_pos q]
      rw [i32_lt, e0] at q
      rw [if_pos (by rw [i32_le, e0]; omega)]
    · rw [if_neg q]
      by_cases q2 : 0 ≤ nI (a + 3) - nI z
      · rw [if_pos q2]
        rw [i32_lt, e0] at q
        rw [i32_le, e0] at q2
        rw [i32_eq, e0]
        omega
      · rw [if_neg q2]
theorem wkl_eq {M : MM} {F : Nat → Int32} {g y o u w : Nat} (h : SR M 1 F g y o u) (hw : w + 1 < g) (co : Int32) : wkl M w co = gal (F (4 + w)) (F (10 + (w + 1))) co + gal (F (4 + (w + 1))) (F (10 + w)) co - F 2 := by
  obtain ⟨_, ⟨_, _, _, _, a5, _⟩, hk, _⟩ := h
  unfold wkl
  have k1 := hk w (by omega)
  have k2 := hk (w + 1) hw
  rw [show M.1 2 w = F (4 + w) from k1.1, show M.1 3 w = F (10 + w) from k1.2.1, show M.1 2 (w + 1) = F (4 + (w + 1)) from k2.1, show M.1 3 (w + 1) = F (10 + (w + 1)) from k2.2.1, a5]
theorem co_eq {M : MM} {F : Nat → Int32} {g w : Nat} {wk : Int32} (hs : SG M 4 g F 16 wk) (hw : w + 1 < g) : M.1 5 w = F (22 + w) := by
  have e := (hs.1 w hw).1
  rw [show (16 : Nat) + (6 + w) = 22 + w by omega] at e
  exact e
theorem qu_eq {M : MM} {F : Nat → Int32} {g w : Nat} {wk : Int32} (hs : SG M 4 g F 16 wk) (hw : w + 1 < g) : M.1 6 w = F (27 + w) := by
  have e := (hs.1 w hw).2.1
  rw [show (16 : Nat) + (11 + w) = 27 + w by omega] at e
  exact e
theorem wkf_eq {M : MM} {F : Nat → Int32} {g y o u w : Nat} (h : SR M 1 F g y o u) (hw : w + 1 < g) : wkl M w (M.1 5 w) = wkf F w := by
  rw [wkl_eq h hw, co_eq h.2.2.2.1 hw]
  rfl
theorem sim_wall {M : MM} {g y o u L : Nat} {x wh : Int32} (h : Rel M g y o u L) : sWl M g x wh = tWl (M.1 121) g x wh := by
  have hg6 : g ≤ 6 := h.1.1.1
  by_cases h1 : wi x 0 (nI (g - 1) - 1) = 0
  · rw [sWl, tWl, if_pos h1, if_pos h1]
  · rw [sWl, tWl, if_neg h1, if_neg h1]
    obtain ⟨w, hw, rfl⟩ := upto_of h1 (by omega)
    rw [cl_nI (by omega)]
    have hs := h.1.2.2.2.1
    by_cases h2 : wi wh 0 3 = 0
    · rw [if_pos h2, sWl1, if_neg, if_neg, if_neg, if_neg]
      · rintro rfl; exact absurd h2 (by decide)
      · rintro rfl; exact absurd h2 (by decide)
      · rintro rfl; exact absurd h2 (by decide)
      · rintro rfl; exact absurd h2 (by decide)
    · rw [if_neg h2]
      obtain ⟨k, _, hk, rfl⟩ := rng_of (a := 0) (b := 3) h2 (by decide) (by decide)
      have hk4 : k = 0 ∨ k = 1 ∨ k = 2 ∨ k = 3 := by omega
      rcases hk4 with rfl | rfl | rfl | rfl
      · exact co_eq hs (by omega)
      · exact qu_eq hs (by omega)
      · show 100 + wkl M w (M.1 5 w) = wkf (M.1 121) w + 100
        rw [wkf_eq h.1 (by omega), Int32.add_comm]
      · exact wta_eq hs (by omega)
theorem smF_z (f : Nat → Int32) (a n : Nat) : ∀ m, (∀ i, n ≤ i → i < n + m → f (a + i) = 0) → smF f a (n + m) = smF f a n
  | 0, _ => rfl
  | m + 1, h => by
    show smF f a (n + m) + f (a + (n + m)) = _
    rw [h (n + m) (by omega) (by omega), smF_z f a n m (fun i h1 h2 => h i h1 (by omega)), Int32.add_zero]
theorem sm_eq {p f : Nat → Int32} {a : Nat} : ∀ n, (∀ i, i < n → p i = f (a + i)) → smI p n = smF f a n
  | 0, _ => rfl
  | n + 1, h => by
    show smI p n + p n = smF f a n + f (a + n)
    rw [sm_eq n (fun i hi => h i (by omega)), h n (by omega)]
theorem sm_co {M : MM} {F : Nat → Int32} {g : Nat} {wk : Int32} (h6 : g ≤ 6) (hs : SG M 4 g F 16 wk) : smI (M.1 5) (g - 1) = smF F 22 5 := by
  rw [sm_eq (f := F) (a := 22) (g - 1) (fun i hi => co_eq hs (by omega))]
  have e := smF_z F 22 (g - 1) (5 - (g - 1)) (fun i h1 h2 => by
    have q := (hs.2.2.1 i (by omega) (by omega)).1
    rw [show (16 : Nat) + (6 + i) = 22 + i by omega] at q
    exact q)
  rw [show g - 1 + (5 - (g - 1)) = 5 by omega] at e
  exact e.symm
theorem sm_qu {M : MM} {F : Nat → Int32} {g : Nat} {wk : Int32} (h6 : g ≤ 6) (hs : SG M 4 g F 16 wk) : smI (M.1 6) (g - 1) = smF F 27 5 := by
  rw [sm_eq (f := F) (a := 27) (g - 1) (fun i hi => qu_eq hs (by omega))]
  have e := smF_z F 27 (g - 1) (5 - (g - 1)) (fun i h1 h2 => by
    have q := (hs.2.2.1 i (by omega) (by omega)).2.1
    rw [show (16 : Nat) + (11 + i) = 27 + i by omega] at q
    exact q)
  rw [show g - 1 + (5 - (g - 1)) = 5 by omega] at e
  exact e.symm
theorem sm_pd {M : MM} {F : Nat → Int32} {g : Nat} {wk : Int32} (h6 : g ≤ 6) (hs : SG M 4 g F 16 wk) : smI (M.1 8) g = smF F 16 6 := by
  rw [sm_eq (f := F) (a := 16) g (fun i hi => hs.2.1 i hi)]
  have e := smF_z F 16 g (6 - g) (fun i h1 h2 => hs.2.2.2.1 i (by omega) (by omega))
  rw [show g + (6 - g) = 6 by omega] at e
  exact e.symm
theorem opn_eq {M : MM} {F : Nat → Int32} {g : Nat} (hs : SG M 4 g F 16 (F 3)) : ∀ n, n + 1 ≤ g → opn M n = msF F n
  | 0, _ => rfl
  | n + 1, hn => by
    rw [opn, msF, opn_eq hs n (by omega), wta_eq hs (by omega)]
    by_cases q : wtF F n = 0
    · rw [if_pos q, if_neg (fun r => r q)]
    · rw [if_neg q, if_pos q, Int32.or_zero]
theorem wtm_eq {M : MM} {F : Nat → Int32} {g y o u : Nat} (h : SR M 1 F g y o u) : wtm M = utl F := by
  obtain ⟨_, ⟨_, _, a3, a4, _, _⟩, _, hs, _⟩ := h
  unfold wtm utl rem
  rw [a3, a4, show M.1 4 4 = F 3 from hs.2.2.2.2.2.1]
theorem sim_count {M : MM} {g y o u L : Nat} {x : Int32} (h : Rel M g y o u L) : sCn M g x = tCn (M.1 121) g x := by
  have h6 := h.1.1.1
  have hs := h.1.2.2.2.1
  obtain ⟨_, _, a3, a4, a5, _⟩ := h.1.2.1
  have ho : opn M (g - 1) = msF (M.1 121) (g - 1) := by
    rcases Nat.eq_zero_or_pos g with e | e
    · subst e; rfl
    · exact opn_eq hs _ (by omega)
  unfold sCn tCn
  rw [show M.1 4 4 = M.1 121 3 from hs.2.2.2.2.2.1, a3.trans a4.symm, a5, sm_co h6 hs, sm_qu h6 hs, sm_pd h6 hs, wtm_eq h.1, ho, h.1.2.2.2.2.1.2.1.trans h.1.2.2.2.2.1.2.2.symm]
theorem fdn_or (h : Nat → Int32) : ∀ n a, fdn h n a = a ||| fdn h n 0
  | 0, a => by show a = a ||| 0; rw [Int32.or_zero]
  | n + 1, a => by
    rw [fdn, fdn]
    split
    · rw [Int32.or_zero]
    · rw [fdn_or h n, fdn_or h n (0 ||| _), Int32.zero_or, Int32.or_assoc]
theorem fup_or (h : Nat → Int32) : ∀ n j a, fup h n j a = a ||| fup h n j 0
  | 0, j, a => by show a = a ||| 0; rw [Int32.or_zero]
  | n + 1, j, a => by
    rw [fup, fup]
    split
    · rw [Int32.or_zero]
    · rw [fup_or h n, fup_or h n _ (0 ||| _), Int32.zero_or, Int32.or_assoc]
theorem sdn_eq {M : MM} {F : Nat → Int32} {g : Nat} {wk : Int32} (hs : SG M 4 g F 16 wk) : ∀ n a, n + 1 ≤ g → sdn M n a = fdn F n a
  | 0, _, _ => rfl
  | n + 1, a, hn => by
    rw [sdn, fdn, co_eq hs (by omega)]
    split
    · rfl
    · exact sdn_eq hs n _ (by omega)
theorem sup_eq {M : MM} {F : Nat → Int32} {g : Nat} {wk : Int32} (hs : SG M 4 g F 16 wk) : ∀ n j a, 1 ≤ j → j + n ≤ g → sup M n j a = fup F n j a
  | 0, _, _, _, _ => rfl
  | n + 1, j, a, h1, hn => by
    rw [sup, fup, co_eq hs (by omega)]
    split
    · rfl
    · exact sup_eq hs n _ _ (by omega) (by omega)
theorem gby_eq {M : MM} {F : Nat → Int32} {g y o u a b : Nat} (h : SR M 1 F g y o u) (ha : a < g) (hb : b < g) (hm : min a b + 1 < g) : gby M a b = gal (F (4 + a)) (F (10 + b)) (F (22 + min a b)) := by
  obtain ⟨_, _, hk, hs, _⟩ := h
  unfold gby
  rw [show M.1 2 a = F (4 + a) from (hk a ha).1, show M.1 3 b = F (10 + b) from (hk b hb).2.1, co_eq hs hm]
theorem sim_of {M : MM} {g y o u L : Nat} {x wh : Int32} (h : Rel M g y o u L) : sOf M g x wh = tOf (M.1 121) g x wh := by
  have hg6 : g ≤ 6 := h.1.1.1
  by_cases h1 : wi x 0 (nI g - 1) = 0
  · rw [sOf, tOf, if_pos h1, if_pos h1]
  · rw [sOf, tOf, if_neg h1, if_neg h1]
    obtain ⟨z, hz, rfl⟩ := upto_of h1 (by omega)
    rw [cl_nI (by omega)]
    have hs := h.1.2.2.2.1
    have hk := h.1.2.2.1
    by_cases h2 : wi wh 0 5 = 0
    · rw [if_pos h2, sOf1, if_neg, if_neg, if_neg, if_neg, if_neg, if_neg]
      · rintro rfl; exact absurd h2 (by decide)
      · rintro rfl; exact absurd h2 (by decide)
      · rintro rfl; exact absurd h2 (by decide)
      · rintro rfl; exact absurd h2 (by decide)
      · rintro rfl; exact absurd h2 (by decide)
      · rintro rfl; exact absurd h2 (by decide)
    · rw [if_neg h2]
      obtain ⟨k, _, hk5, rfl⟩ := rng_of (a := 0) (b := 5) h2 (by decide) (by decide)
      have hk6 : k = 0 ∨ k = 1 ∨ k = 2 ∨ k = 3 ∨ k = 4 ∨ k = 5 := by omega
      rcases hk6 with rfl | rfl | rfl | rfl | rfl | rfl
      · exact (hk z hz).1
      · exact (hk z hz).2.1
      · exact hs.2.1 z hz
      · show (if wi (nI z - 1) 0 (nI g - 1) = 0 then 0 else gby M z (z - 1)) = (if nI z = 0 then 0 else gal (M.1 121 (4 + z)) (M.1 121 (10 + (z - 1))) (M.1 121 (22 + (z - 1))))
        rcases Nat.eq_zero_or_pos z with e | e
        · subst e
          rw [if_pos (show nI 0 = 0 from rfl), if_pos]
          rw [wi, if_pos (show nI 0 - 1 < 0 by decide)]
        · have q : ¬ nI z = 0 := fun r => absurd ((nI_eq (a := z) (b := 0) (by omega) (by decide)).mp r) (by omega)
          rw [if_neg q, if_neg, gby_eq h.1 hz (by omega) (by omega), show min z (z - 1) = z - 1 by omega]
          rw [nI_sub1 e, wi, if_neg (show ¬ nI (z - 1) < 0 from nI_nlt (b := 0) (by omega) (by omega)), nI_sub1 (by omega), if_neg (nI_nlt (by omega) (by omega))]
          decide
      · show (if wi (nI z + 1) 0 (nI g - 1) = 0 then 0 else gby M z (z + 1)) = (if nI z = nI g - 1 then 0 else gal (M.1 121 (4 + z)) (M.1 121 (10 + (z + 1))) (M.1 121 (22 + z)))
        rw [nI_1, nI_sub1 (show 1 ≤ g by omega)]
        by_cases e : z + 1 = g
        · rw [if_pos (show nI z = nI (g - 1) by rw [show z = g - 1 by omega]), if_pos]
          rw [wi, if_neg (show ¬ nI (z + 1) < 0 from nI_nlt (b := 0) (by omega) (by omega)), if_pos (nI_lt (by omega) (by omega))]
        · have q : ¬ nI z = nI (g - 1) := fun r => absurd ((nI_eq (a := z) (b := g - 1) (by omega) (by omega)).mp r) (by omega)
          rw [if_neg q, if_neg, gby_eq h.1 hz (by omega) (by omega), show min z (z + 1) = z by omega]
          rw [wi, if_neg (show ¬ nI (z + 1) < 0 from nI_nlt (b := 0) (by omega) (by omega)), if_neg (nI_nlt (by omega) (by omega))]
          decide
      · show sup M (g - (z + 1)) (z + 1) (sdn M z 0) = fdn (M.1 121) z (fup (M.1 121) (g - (z + 1)) (z + 1) 0)
        rw [sup_eq hs _ _ _ (by omega) (by omega), sdn_eq hs _ _ (by omega), fup_or, fdn_or (M.1 121) z (fup _ _ _ _), Int32.or_comm]
