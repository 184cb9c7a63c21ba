/-! holds, stir -/
theorem chI_eq {M : MM} {F : Nat → Int32} {g : Nat} {wk : Int32} (hs : SG M 4 g F 16 wk) (p : Int32) : ∀ n, n + 1 ≤ g ∨ n = 0 → chI M p n = hlI F p n
  | 0, _ => rfl
  | n + 1, hn => by
    rw [chI, hlI, chI_eq hs p n (by omega), co_eq hs (by omega)]
theorem chO_eq {M : MM} {F : Nat → Int32} {g : Nat} {wk : Int32} (hs : SG M 4 g F 16 wk) : ∀ n, chO M g n = hlO F g n
  | 0 => rfl
  | n + 1 => by
    rw [chO, hlO, chO_eq hs n, chI_eq hs _ _ (by omega)]
theorem sim_holds {M : MM} {g y o u L : Nat} {x : Int32} (h : Rel M g y o u L) : sHd M g x = tHd (M.1 121) g x := by
  unfold sHd tHd
  by_cases h1 : wi x 0 52 = 0
  · rw [if_pos h1, if_pos h1]
  · rw [if_neg h1, if_neg h1]
    exact chO_eq h.1.2.2.2.1 _
theorem cnx_cg {M M' : MM} {w : Nat} {q : Int32} (e : ∀ a, a < 101 → M'.1 a = M.1 a) : cnx M' w q = cnx M w q := by
  unfold cnx grw wkl wtm
  rw [e 1 (by omega), e 2 (by omega), e 3 (by omega), e 4 (by omega), e 5 (by omega)]
theorem wG_o {x : Int32} {M : MM} {a : Nat} (h1 : a ≠ 104) (h2 : a ≠ 105) : ∀ n, (wG x M n).1 a = M.1 a
  | 0 => rfl
  | n + 1 => by rw [wG, sI_out h2, sI_out h1]; exact wG_o h1 h2 n
theorem wG_2 {x : Int32} {M : MM} : ∀ n, (wG x M n).2 = M.2
  | 0 => rfl
  | n + 1 => wG_2 n
theorem wG_at {x : Int32} {M : MM} {j : Nat} : ∀ n, j < n → (wG x M n).1 104 j = cnx M j (M.1 6 j) ∧ (wG x M n).1 105 j = cnx M j (asQ (M.1 6 j + x))
  | 0, h => absurd h (by omega)
  | n + 1, h => by
    have c0 : ∀ q, cnx (wG x M n) n q = cnx M n q := fun q => cnx_cg (fun a ha => wG_o (by omega) (by omega) n)
    have c1 : ∀ v q, cnx (sI (wG x M n) 104 n v) n q = cnx M n q := fun v q => cnx_cg (fun a ha => (sI_out (by omega)).trans (wG_o (by omega) (by omega) n))
    rw [wG, c1, c0, wG_o (a := 6) (by decide) (by decide) n]
    by_cases e : j = n
    · subst e
      rw [sI_out (by decide), sI_same, sI_same]
      exact ⟨rfl, rfl⟩
    · rw [sI_out (by decide), sI_oth e, sI_oth e, sI_out (by decide)]
      exact wG_at n (by omega)
theorem bit1 : ∀ i : Nat, i < 5 → ∀ j : Nat, j < 5 → (((((1 : Int32) <<< (nI i &&& 31)) >>> (nI j &&& 31)) &&& 1 = 1) ↔ j = i) := by decide +kernel
theorem cnx_bd {M : MM} {F : Nat → Int32} {g y o u w : Nat} {q : Int32} (h : SR M 1 F g y o u) : bd (cnx M w q) 19 := by
  unfold cnx grw
  exact bd_div (asQ_bd _)
theorem bd_add {a b : Int32} {n m : Nat} (ha : bd a n) (hb : bd b m) : bd (a + b) (n + m) := by
  obtain ⟨p, hp, rfl⟩ := ha
  obtain ⟨q, hq, rfl⟩ := hb
  exact ⟨p + q, by omega, nI_add p q⟩
theorem cw_eq {M W : MM} {F H : Nat → Int32} {g y o u : Nat} {s : Int32} (h : SR M 1 F g y o u) (e : ∀ j, j + 1 < g → (if (s >>> (nI j &&& 31)) &&& 1 = 1 then W.1 105 j else W.1 104 j) = H (22 + j)) : ∀ n, n + 1 ≤ g ∨ n = 0 → cw W s n = smF H 22 n
  | 0, _ => rfl
  | n + 1, hn => by
    rw [cw, smF, cw_eq h e n (by omega), e n (by omega)]
theorem sm_by {M : MM} {F H : Nat → Int32} {g y o u k : Nat} (h : SR M 1 F g y o u) (eH : ∀ i, i < 5 → g ≤ i + 1 → H (22 + i) = F (22 + i)) : smF (goN g k H) 22 5 = smF (goN g k H) 22 (g - 1) := by
  have h6 := h.1.1
  have hs := h.2.2.2.1
  have e := smF_z (goN g k H) 22 (g - 1) (5 - (g - 1)) (fun i i1 i2 => by
    have z := (hs.2.2.1 i (by omega) (by omega)).1
    rw [show 16 + (6 + i) = 22 + i by omega] at z
    rw [goN_by h6 (by omega) (fun j hj => by omega), eH i (by omega) (by omega)]
    exact z)
  rw [show g - 1 + (5 - (g - 1)) = 5 by omega] at e
  exact e
theorem st_c {M : MM} {F k : Nat → Int32} {g y o u w : Nat} {x : Int32} (h : SR M 1 F g y o u) (hw : w + 1 < g) : cw (wG x M (g - 1)) ((1 : Int32) <<< (nI w &&& 31)) (g - 1) = smF (lgK F g w x k) 22 5 := by
  have h6 := h.1.1
  have hs := h.2.2.2.1
  unfold lgK
  rw [sm_by h (fun i i1 i2 => by rw [upd_o (by omega), lyF_in _ _ (by omega)])]
  refine cw_eq h (fun j hj => ?_) _ (by omega)
  obtain ⟨a4, a5⟩ := wG_at (x := x) (M := M) (j := j) (g - 1) (by omega)
  rw [a4, a5]
  by_cases e : j = w
  · subst e
    rw [if_pos ((bit1 j (by omega) j (by omega)).mpr rfl)]
    refine (cn_eq h hj ly_w ?_ (asQ_bd _)).symm
    rw [pk_us, lyF_in _ _ (by omega), qu_eq hs hj]
  · rw [if_neg (fun q => e ((bit1 w (by omega) j (by omega)).mp q))]
    refine (cn_eq h hj ly_w ?_ ?_).symm
    · rw [upd_o (by omega), lyF_in _ _ (by omega), qu_eq hs hj]
    · rw [qu_eq hs hj]
      exact qbd hs (by omega)
theorem cw_nn {M : MM} {F : Nat → Int32} {g y o u : Nat} {x s : Int32} (h : SR M 1 F g y o u) : ∀ n, n ≤ g - 1 → bd (cw (wG x M (g - 1)) s n) (19 * n)
  | 0, _ => ⟨0, by omega, rfl⟩
  | n + 1, hn => by
    obtain ⟨a4, a5⟩ := wG_at (x := x) (M := M) (j := n) (g - 1) (by omega)
    rw [cw, a4, a5]
    have q := cw_nn (s := s) (x := x) h n (by omega)
    rw [show 19 * (n + 1) = 19 * n + 19 by omega]
    refine bd_add q ?_
    split
    · exact cnx_bd h
    · exact cnx_bd h
theorem bG_eq {M : MM} {F k : Nat → Int32} {g y o u : Nat} {x : Int32} (h : SR M 1 F g y o u) : ∀ n, n + 1 < g →
    (bG (wG x M (g - 1)) g (n + 1)).1 = (srT F g x k (n + 1)).2.1 ∧ (bG (wG x M (g - 1)) g (n + 1)).2 = (srT F g x k (n + 1)).2.2 ∧ ∃ i, i ≤ n ∧ (bG (wG x M (g - 1)) g (n + 1)).1 = nI i ∧ (bG (wG x M (g - 1)) g (n + 1)).2 = cw (wG x M (g - 1)) ((1 : Int32) <<< (nI i &&& 31)) (g - 1)
  | 0, hn => by
    have h6 := h.1.1
    have e := st_c (k := k) (x := x) h (show 0 + 1 < g by omega)
    obtain ⟨c, hc, ec⟩ := cw_nn (x := x) (s := (1 : Int32) <<< (nI 0 &&& 31)) h (g - 1) (by omega)
    have n1 : ¬ nI c ≤ -1 := by
      rw [i32_le, nI_toInt (by omega)]
      have : (-1 : Int32).toInt = -1 := rfl
      omega
    have n4 : ¬ nI c ≤ -4 := by
      rw [i32_le, nI_toInt (by omega)]
      have : (-4 : Int32).toInt = -4 := rfl
      omega
    have e1 : bG (wG x M (g - 1)) g (0 + 1) = (nI 0, cw (wG x M (g - 1)) ((1 : Int32) <<< (nI 0 &&& 31)) (g - 1)) := by
      rw [bG, if_neg]
      rw [ec]
      exact n1
    have e2 : (srT F g x k (0 + 1)).2 = (nI 0, smF (lgK F g 0 x k) 22 5) := by
      have q : ¬ smF (lgK F g 0 x (srT F g x k 0).1) 22 5 ≤ (srT F g x k 0).2.2 := by
        show ¬ smF (lgK F g 0 x k) 22 5 ≤ -4
        rw [← e, ec]
        exact n4
      rw [srT]
      dsimp only
      rw [if_neg q, if_neg q]
      rfl
    rw [e1, e2, e]
    exact ⟨rfl, rfl, 0, by omega, rfl, e.symm⟩
  | n + 1, hn => by
    obtain ⟨i1, i2, i, hi, i3, i4⟩ := bG_eq (k := k) (x := x) h n (by omega)
    have e := st_c (k := (srT F g x k (n + 1)).1) (x := x) h (show n + 1 + 1 < g by omega)
    rw [bG, srT]
    dsimp only
    rw [e, i2]
    by_cases q : smF (lgK F g (n + 1) x (srT F g x k (n + 1)).1) 22 5 ≤ (srT F g x k (n + 1)).2.2
    · rw [if_pos q, if_pos q, if_pos q]
      exact ⟨i1, i2, i, by omega, i3, i4⟩
    · rw [if_neg q, if_neg q, if_neg q]
      exact ⟨rfl, rfl, n + 1, by omega, rfl, e.symm⟩
theorem sim_stir {M : MM} {g y o u L : Nat} {x wh : Int32} {k : Nat → Int32} (h : Rel M g y o u L) : (sSr M g x wh).2 = (tSr (M.1 121) k g x wh).2 ∧ (sSr M g x wh).1.1 121 = M.1 121 ∧ REL (rI (sSr M g x wh).1 122 (tSr (M.1 121) k g x wh).1) := by
  have h6 := h.1.1.1
  unfold sSr tSr
  by_cases h1 : wi x 1 9 = 0
  · rw [if_pos h1, if_pos h1]
    exact ⟨rfl, rfl, rel_122 h⟩
  · rw [if_neg h1, if_neg h1]
    by_cases h2 : wi wh 0 1 = 0
    · rw [if_pos h2, if_pos h2]
      exact ⟨rfl, rfl, rel_122 h⟩
    · rw [if_neg h2, if_neg h2]
      refine ⟨?_, wG_o (by decide) (by decide) _, rel_ft h (fun a ha => by rw [rI_ne _ _ (by omega)]; exact wG_o (by omega) (by omega) _) (wG_2 _)⟩
      dsimp only
      rcases Nat.lt_or_ge g 2 with hg | hg
      · rw [show g - 1 = 0 by omega]
        by_cases q : wh = 0
        · rw [if_pos q, if_neg (fun r => r q)]
          rfl
        · rw [if_neg q, if_pos q]
          rfl
      · obtain ⟨i1, i2, i, hi, i3, i4⟩ := bG_eq (k := k) (x := x) h.1 (g - 2) (by omega)
        rw [show g - 2 + 1 = g - 1 by omega] at i1 i2 i3 i4
        by_cases q : wh = 0
        · rw [if_pos q, if_neg (fun r => r q)]
          exact i1
        · rw [if_neg q, if_pos q, ← i2, i4, i3]
          have n4 : ¬ nI i = -4 := fun r => by
            have := congrArg Int32.toInt r
            rw [nI_toInt (by omega)] at this
            have e : (-4 : Int32).toInt = -4 := rfl
            omega
          rw [if_neg n4]
