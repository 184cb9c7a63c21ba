/-! ahead, least gift -/
theorem rel_ft {M M' : MM} {g y o u L : Nat} (h : Rel M g y o u L) (e : ∀ a, a < 101 ∨ (105 < a ∧ a ≠ 122) → M'.1 a = M.1 a) (e2 : M'.2 = M.2) : REL M' := by
  refine ⟨g, y, o, u, L, ?_, ?_, ?_, ?_⟩
  · rw [e 121 (by omega)]
    exact sr_fr (fun a h1 h2 => e a (by omega)) (fun _ _ => rfl) h.1
  · exact tpr_fr (by rw [e _ (by omega)]) (e _ (by omega)) (by rw [e _ (by omega)]) (e _ (by omega)) h.2.1
  · exact fun s hs => shr_fr hs (fun a h1 h2 => e a (by omega)) (e _ (by omega)) (e _ (by omega)) e2 (h.2.2.1 s hs)
  · exact imr_fr (by rw [e _ (by omega)]) (by rw [e _ (by omega)]) (fun a h1 h2 => e a (by omega)) (e _ (by omega)) h.2.2.2
theorem rel_122 {M : MM} {g y o u L : Nat} {k : Nat → Int32} (h : Rel M g y o u L) : REL (rI M 122 k) := rel_ft h (fun a ha => rI_ne _ _ (by omega)) rfl
theorem wk_ex {M : MM} {F : Nat → Int32} {g y o u : Nat} (h : SR M 1 F g y o u) : ∃ z : Nat, z ≤ 9999 ∧ F 3 = nI z := h.2.2.2.1.2.2.2.2.2.2.2.1
theorem un_ex {M : MM} {F : Nat → Int32} {g y o u z : Nat} (h : SR M 1 F g y o u) (hz : F 3 = nI z) (z9 : z ≤ 9999) : utl F = nI (y - z % y) ∧ cl (utl F) = y - z % y ∧ wtm M = nI (y - z % y) := by
  have e := utl_N (h := F) h.2.1.2.2.2.1 hz (show 0 < y by have := h.1.2.1; omega) (show y ≤ 99 by have := h.1.2.2.1; omega) (by omega)
  have h5 := h.1.2.2.1
  exact ⟨e, by rw [e]; exact cl_nI (by omega), by rw [wtm_eq h]; exact e⟩
theorem wb_cg {f h : Nat → Int32} {w : Nat} (hw : w < 5) (e : ∀ a, a ≠ 3 → a < 16 → f a = h a) (b : WB h w) : WB f w := by
  unfold WB
  rw [e _ (by omega) (by omega), e _ (by omega) (by omega), e _ (by omega) (by omega), e _ (by omega) (by omega), e _ (by omega) (by omega)]
  exact b
theorem grw_eq {M : MM} {F : Nat → Int32} {g y o u w : Nat} (h : SR M 1 F g y o u) (hw : w + 1 < g) (q c k : Int32) : grw M w q c k = asQ (q + k * gd F w c) := by
  unfold grw
  rw [wkl_eq h hw]
  rfl
theorem cn_eq {M : MM} {F H : Nat → Int32} {g y o u w : Nat} {q : Int32} (h : SR M 1 F g y o u) (hw : w + 1 < g) (eH : ∀ a, a < 27 → H a = F a) (eq : H (27 + w) = q) (hq : bd q 99) : goN g (cl (utl F)) H (22 + w) = cnx M w q := by
  obtain ⟨z, z9, hz⟩ := wk_ex h
  obtain ⟨e1, e2, e3⟩ := un_ex h hz z9
  have h6 := h.1.1
  have y2 := h.1.2.1
  have y5 := h.1.2.2.1
  have wb : WB H w := wb_cg (by omega) (fun a _ ha => eH a (by omega)) (wb_of h hw)
  obtain ⟨_, k2⟩ := go_in (h := H) (g := g) (w := w) (yy := y) (ww := z) h6 hw (by rw [eH 1 (by omega)]; exact h.2.1.2.2.2.1) (by rw [eH 3 (by omega)]; exact hz) y2 (by omega) (by omega) wb (by rw [eq]; exact hq) (by rw [eH _ (by omega)]; exact cbd h.2.2.2.1 (by omega)) (y - z % y) (by omega)
  rw [if_pos rfl] at k2
  rw [e2, k2, cnx, grw_eq h hw, e3, co_eq h.2.2.2.1 hw, eq, eH (22 + w) (by omega), gd_cg (f := H) (h := F) (by omega) (fun a _ ha => eH a (by omega))]
theorem ly_w {F h : Nat → Int32} {w : Nat} {v : Int32} : ∀ a, a < 27 → upd (lyF F h) (27 + w) v a = F a := fun a ha => by rw [upd_o (by omega), lyF_in _ _ (by omega)]
theorem gft_eq {M : MM} {F : Nat → Int32} {g y o u w : Nat} {hh : Int32} (h : SR M 1 F g y o u) (hw : w + 1 < g) : ∀ n j (k : Nat → Int32), gft M w hh n j = (lgF F g w hh n j k).2
  | 0, _, _ => rfl
  | n + 1, j, k => by
    have h6 := h.1.1
    have e : lgM F g w (nI j) k (22 + w) = cnx M w (asQ (M.1 6 w - nI j)) := by
      refine cn_eq h hw ly_w ?_ (asQ_bd _)
      rw [pk_us, lyF_in _ _ (by omega), qu_eq h.2.2.2.1 hw]
    rw [gft, lgF, e]
    by_cases q : hh < cnx M w (asQ (M.1 6 w - nI j))
    · rw [if_pos q, if_pos q]
      exact gft_eq h hw n (j + 1) _
    · rw [if_neg q, if_neg q]
theorem sim_leastGift {M : MM} {g y o u L : Nat} {x hh : Int32} {k : Nat → Int32} (h : Rel M g y o u L) : sLg M g x hh = (tLg (M.1 121) k g x hh).2 := by
  have h6 := h.1.1.1
  unfold sLg tLg
  by_cases h1 : wi x 0 (nI (g - 1) - 1) = 0
  · rw [if_pos h1, if_pos h1]
  · rw [if_neg h1, if_neg h1]
    by_cases h2 : wi hh 0 19 = 0
    · rw [if_pos h2, if_pos h2]
    · rw [if_neg h2, if_neg h2]
      obtain ⟨w, hw, rfl⟩ := upto_of h1 (by omega)
      rw [cl_nI (by omega)]
      exact gft_eq h.1 (by omega) 21 0 k
theorem goN_add (g : Nat) : ∀ a b (h : Nat → Int32), goN g (a + b) h = goN g b (goN g a h)
  | 0, b, h => by rw [Nat.zero_add]; rfl
  | a + 1, b, h => by
    rw [show a + 1 + b = (a + b) + 1 by omega, goN, goN_add g a b, goN]
theorem mod_full {ww yy : Nat} (y0 : 0 < yy) : (ww + (yy - ww % yy)) % yy = 0 := by
  have hl := Nat.mod_lt ww y0
  have e := Nat.div_add_mod ww yy
  have : ww + (yy - ww % yy) = yy * (ww / yy + 1) := by
    rw [Nat.mul_add, Nat.mul_one]
    omega
  rw [this]
  exact Nat.mul_mod_right _ _
theorem bh_eq {M : MM} {F : Nat → Int32} {g y o u w : Nat} (h : SR M 1 F g y o u) (hw : w + 1 < g) (wh : Int32) : ∀ n l (H : Nat → Int32) (ww : Nat), l ≤ n → l + ww ≤ 15000 → (∀ a, a ≠ 3 → a < 16 → H a = F a) → H 3 = nI ww → bd (H (27 + w)) 99 → bd (H (22 + w)) 19 →
    bhR M w wh (bh M w n (H (27 + w)) (H (22 + w)) (nI l) (nI (y - ww % y))) = (if wh = 0 then goN g l H (22 + w) else goN g l H (27 + w)) := by
  have h6 := h.1.1
  have y2 := h.1.2.1
  have y5 := h.1.2.2.1
  intro n
  induction n with
  | zero =>
    intro l H ww hl hlw eH e3 hq hc
    have hl0 : l = 0 := by omega
    subst hl0
    have hb := bd_I (by decide) hq
    show (if wh = 0 then H (22 + w) else grw M w (H (27 + w)) (H (22 + w)) (nI 0)) = _
    rw [grw_eq h hw, asQ_0 hb.1 hb.2]
    rfl
  | succ n ih =>
    intro l H ww hl hlw eH e3 hq hc
    have hml := Nat.mod_lt ww (show 0 < y by omega)
    have wb : WB H w := wb_cg (by omega) eH (wb_of h hw)
    have e1 : H 1 = nI y := (eH 1 (by decide) (by decide)).trans h.2.1.2.2.2.1
    have egd : ∀ c, gd F w c = gd H w c := fun c => (gd_cg (f := H) (h := F) (by omega) eH c).symm
    rw [bh]
    by_cases q : l < y - ww % y
    · rw [if_pos (nI_lt q (by omega))]
      obtain ⟨k1, k2⟩ := go_in (h := H) h6 hw e1 e3 y2 (by omega) (by omega) wb hq hc l (by omega)
      rw [if_neg (by omega)] at k2
      rw [k1, k2]
      show (if wh = 0 then H (22 + w) else grw M w (H (27 + w)) (H (22 + w)) (nI l)) = _
      rw [grw_eq h hw, egd]
    · rw [if_neg (nI_nlt (by omega) (by omega))]
      obtain ⟨k1, k2⟩ := go_in (h := H) h6 hw e1 e3 y2 (by omega) (by omega) wb hq hc (y - ww % y) (by omega)
      rw [if_pos rfl] at k2
      have hh := ih (l - (y - ww % y)) (goN g (y - ww % y) H) (ww + (y - ww % y)) (by omega) (by omega) (fun a q1 q2 => (goN_fr g h6 q1 (by omega) _ _).trans (eH a q1 q2)) (goN_3 g h6 _ _ ww e3) (by rw [k1]; exact asQ_bd _) (by rw [k2]; exact bd_div (asQ_bd _))
      rw [← goN_add, show y - ww % y + (l - (y - ww % y)) = l by omega, mod_full (by omega), Nat.sub_zero, k1, k2] at hh
      rw [grw_eq h hw, egd, pk_sub (by omega), show M.1 1 3 = nI y from h.2.1.2.2.1]
      exact hh
theorem bhd_eq {M : MM} {F k : Nat → Int32} {g y o u w l : Nat} (h : SR M 1 F g y o u) (hw : w + 1 < g) (hl : l ≤ 104) (wh : Int32) : bhd M w (nI l) wh = (if wh = 0 then goN g l (lyF F k) (22 + w) else goN g l (lyF F k) (27 + w)) := by
  have h6 := h.1.1
  obtain ⟨z, z9, hz⟩ := wk_ex h
  obtain ⟨e1, e2, e3⟩ := un_ex h hz z9
  have b1 := qbd h.2.2.2.1 (show w < 5 by omega)
  have b2 := cbd h.2.2.2.1 (show w < 5 by omega)
  have hh := bh_eq h hw wh 104 l (lyF F k) z hl (by omega) (fun a _ ha => lyF_in _ _ (by omega)) (by rw [lyF_in _ _ (by decide)]; exact hz) (by rw [lyF_in _ _ (by omega)]; exact b1) (by rw [lyF_in _ _ (by omega)]; exact b2)
  rw [← hh, bhd, e3, lyF_in _ _ (by omega), lyF_in _ _ (by omega), qu_eq h.2.2.2.1 hw, co_eq h.2.2.2.1 hw]
theorem gos_by {h : Nat → Int32} {g a : Nat} (h6 : g ≤ 6) (ha : 22 ≤ a) (h1 : ∀ j, j + 1 < g → a ≠ 22 + j ∧ a ≠ 27 + j) : (gosF g h).1 a = h a := by
  have w1 : ∀ n, n + 1 ≤ g ∨ n = 0 → gwF h n a = h a := by
    intro n
    induction n with
    | zero => intro _; rfl
    | succ n ih =>
      intro hn
      rw [gwF, upd_o (h1 n (by omega)).2]
      exact ih (by omega)
  have w2 : gw3 h g a = h a := by rw [gw3, upd_o (by omega), w1 _ (by omega)]
  have w3 : ∀ (f : Nat → Int32) n, n + 1 ≤ g ∨ n = 0 → (mch f n).1 a = f a := by
    intro f n
    induction n with
    | zero => intro _; rfl
    | succ n ih =>
      intro hn
      exact (mcF_o _ (by omega) (by omega) (h1 n (by omega)).1).trans (ih (by omega))
  unfold gosF
  split
  · rw [w3 _ _ (by omega), w2]
  · exact w2
theorem goN_by {g a : Nat} (h6 : g ≤ 6) (ha : 22 ≤ a) (h1 : ∀ j, j + 1 < g → a ≠ 22 + j ∧ a ≠ 27 + j) : ∀ n (h : Nat → Int32), goN g n h a = h a
  | 0, _ => rfl
  | n + 1, h => by rw [goN, goN_by h6 ha h1 n, gos_by h6 ha h1]
theorem abh_eq {M : MM} {F k : Nat → Int32} {g y o u l : Nat} (h : SR M 1 F g y o u) (hl : l ≤ 104) (wh : Int32) : ∀ n, n + 1 ≤ g ∨ n = 0 → abh M (nI l) wh n = smF (goN g l (lyF F k)) (ahB wh) n
  | 0, _ => rfl
  | n + 1, hn => by
    rw [abh, smF, abh_eq h hl wh n (by omega), bhd_eq (k := k) h (show n + 1 < g by omega) hl]
    unfold ahB
    by_cases q : wh = 0
    · rw [if_pos q, if_neg (fun r => r q)]
    · rw [if_neg q, if_pos q]
theorem sim_ahead {M : MM} {g y o u L : Nat} {x v wh : Int32} {k : Nat → Int32} (h : Rel M g y o u L) : sAh M g x v wh = (tAh (M.1 121) k g x v wh).2 := by
  have h6 := h.1.1.1
  unfold sAh tAh
  by_cases h1 : ¬ x = -4 ∧ wi x 0 (nI (g - 1) - 1) = 0
  · rw [if_pos h1, if_pos h1]
  · rw [if_neg h1, if_neg h1]
    by_cases h2 : wi v 0 104 = 0
    · rw [if_pos h2, if_pos h2]
    · rw [if_neg h2, if_neg h2]
      by_cases h3 : wi wh 0 1 = 0
      · rw [if_pos h3, if_pos h3]
      · rw [if_neg h3, if_neg h3]
        obtain ⟨l, _, hl, rfl⟩ := rng_of (a := 0) (b := 104) h2 (by decide) (by decide)
        rw [cl_nI (by omega)]
        by_cases h4 : x = -4
        · rw [if_pos h4]
          show _ = (if x = -4 then _ else _)
          rw [if_pos h4, abh_eq (k := k) h.1 hl wh (g - 1) (by omega)]
          have hs := h.1.2.2.2.1
          have e := smF_z (goN g l (lyF (M.1 121) k)) (ahB wh) (g - 1) (5 - (g - 1)) (fun i i1 i2 => by
            have z := hs.2.2.1 i (by omega) (by omega)
            unfold ahB
            split
            · rw [goN_by h6 (by omega) (fun j hj => by omega), lyF_in _ _ (by omega)]
              have z1 := z.2.1
              rw [show 16 + (11 + i) = 27 + i by omega] at z1
              exact z1
            · rw [goN_by h6 (by omega) (fun j hj => by omega), lyF_in _ _ (by omega)]
              have z1 := z.1
              rw [show 16 + (6 + i) = 22 + i by omega] at z1
              exact z1)
          rw [show g - 1 + (5 - (g - 1)) = 5 by omega] at e
          exact e.symm
        · rw [if_neg h4]
          show _ = (if x = -4 then _ else _)
          rw [if_neg h4]
          have h5 : ¬ wi x 0 (nI (g - 1) - 1) = 0 := fun q => h1 ⟨h4, q⟩
          obtain ⟨w, hw, rfl⟩ := upto_of h5 (by omega)
          rw [cl_nI (by omega), bhd_eq (k := k) h.1 (show w + 1 < g by omega) hl]
          unfold ahB
          by_cases q : wh = 0
          · rw [if_pos q, if_neg (fun r => r q)]
          · rw [if_neg q, if_pos q]
