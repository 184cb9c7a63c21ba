/-! seen -/
theorem snI_0 {m : Nat → Int64} {g w b j : Nat} {H : Nat → Int32} (h : (snI m g w b H j).2 = 0) : ∀ n, (snI m g w b H (j + n)).2 = 0
  | 0 => h
  | n + 1 => if_pos (snI_0 h n)
theorem fts_eq {M : MM} {F H : Nat → Int32} {m : Nat → Int64} {g y o u w s a z0 : Nat} (h : SR M 1 F g y o u) (hw : w + 1 < g) (eH : ∀ a, a ≠ 3 → a < 16 → H a = F a) (e3 : H 3 = nI z0) (z9 : z0 ≤ 9999) (hq0 : bd (H (27 + w)) 99) (hc0 : bd (H (22 + w)) 19) : ∀ n j, j + n ≤ 6 → (∀ i, i < n → M.2 (112 + 2 * s + 1) (a + (j + i)) = m (24 * s + a + (j + i))) → ∀ ww, (snI m g w (24 * s + a) H j).1 3 = nI ww → ww ≤ 9999 + 100 * j → bd ((snI m g w (24 * s + a) H j).1 (27 + w)) 99 → bd ((snI m g w (24 * s + a) H j).1 (22 + w)) 19 → (snI m g w (24 * s + a) H j).2 = 1 →
    fts M w (112 + 2 * s) a n j ((snI m g w (24 * s + a) H j).1 (27 + w)) ((snI m g w (24 * s + a) H j).1 (22 + w)) (nI (y - ww % y)) = (snI m g w (24 * s + a) H (j + n)).2 := by
  have h6 := h.1.1
  have y2 := h.1.2.1
  have y5 := h.1.2.2.1
  intro n
  induction n with
  | zero => intro j _ _ ww _ _ _ _ h1; exact h1.symm
  | succ n ih =>
    intro j hj hr ww ew hww hq hc h1
    have hml := Nat.mod_lt ww (show 0 < y by omega)
    have eS : ∀ c, c ≠ 3 → c < 16 → (snI m g w (24 * s + a) H j).1 c = F c := fun c q1 q2 => (snI_fr m g w _ H h6 q1 q2 j).trans (eH c q1 q2)
    have e1 : (snI m g w (24 * s + a) H j).1 1 = nI y := (eS 1 (by decide) (by decide)).trans h.2.1.2.2.2.1
    have hcl : cl (utl (snI m g w (24 * s + a) H j).1) = y - ww % y := by
      rw [utl_N e1 ew (by omega) (by omega) (by omega)]
      exact cl_nI (by omega)
    have wb : WB (snI m g w (24 * s + a) H j).1 w := wb_cg (by omega) eS (wb_of h hw)
    obtain ⟨k1, k2⟩ := go_in (h := (snI m g w (24 * s + a) H j).1) h6 hw e1 ew y2 (by omega) (by omega) wb hq hc (y - ww % y) (by omega)
    rw [if_pos rfl] at k2
    have es1 : (snI m g w (24 * s + a) H (j + 1)).1 = goN g (y - ww % y) (snI m g w (24 * s + a) H j).1 := by
      show goN g (cl (utl (snI m g w (24 * s + a) H j).1)) (snI m g w (24 * s + a) H j).1 = _
      rw [hcl]
    have es2 : (snI m g w (24 * s + a) H (j + 1)).2 = if ¬ lg_cmp (m (24 * s + a + j)) (goN g (y - ww % y) (snI m g w (24 * s + a) H j).1 (22 + w)).toInt64 = 0 then 0 else 1 := by
      show (if (snI m g w (24 * s + a) H j).2 = 0 then 0 else if ¬ lg_cmp (m (24 * s + a + j)) (goN g (cl (utl (snI m g w (24 * s + a) H j).1)) (snI m g w (24 * s + a) H j).1 (22 + w)).toInt64 = 0 then 0 else 1) = _
      rw [h1, if_neg (by decide), hcl]
    have eg : grw M w ((snI m g w (24 * s + a) H j).1 (27 + w)) ((snI m g w (24 * s + a) H j).1 (22 + w)) (nI (y - ww % y)) = (snI m g w (24 * s + a) H (j + 1)).1 (27 + w) := by
      rw [es1, k1, grw_eq h hw, gd_cg (f := (snI m g w (24 * s + a) H j).1) (h := F) (by omega) eS]
    have eg2 : (snI m g w (24 * s + a) H (j + 1)).1 (22 + w) = (snI m g w (24 * s + a) H (j + 1)).1 (27 + w) / 5 := by
      rw [es1, k1, k2]
    have hr0 : M.2 (112 + 2 * s + 1) (a + j) = m (24 * s + a + j) := hr 0 (by omega)
    rw [fts, eg, hr0, ← eg2]
    rw [← es1] at es2
    by_cases q : lg_cmp (m (24 * s + a + j)) ((snI m g w (24 * s + a) H (j + 1)).1 (22 + w)).toInt64 = 0
    · rw [if_pos q]
      rw [if_neg (fun r => r q)] at es2
      have hh := ih (j + 1) (by omega) (fun i hi => by have := hr (i + 1) (by omega); rw [show j + (i + 1) = j + 1 + i by omega] at this; exact this) (ww + (y - ww % y)) (by rw [es1]; exact goN_3 g h6 _ _ ww ew) (by omega) (by rw [← eg]; exact asQ_bd _) (by rw [eg2, ← eg]; exact bd_div (asQ_bd _)) es2
      rw [mod_full (by omega), Nat.sub_zero, show j + 1 + n = j + (n + 1) by omega] at hh
      rw [show M.1 1 3 = nI y from h.2.1.2.2.1]
      exact hh
    · rw [if_neg q]
      rw [if_pos q] at es2
      have := snI_0 es2 n
      rw [show j + 1 + n = j + (n + 1) by omega] at this
      exact this.symm
theorem ftq_eq {M : MM} {F k : Nat → Int32} {m : Nat → Int64} {g y o u w s a b q : Nat} (h : SR M 1 F g y o u) (hw : w + 1 < g) (hb : b ≤ 6) (hq : q < 100) (hr : ∀ i, i < b → M.2 (112 + 2 * s + 1) (a + i) = m (24 * s + a + i)) : ftq M w (112 + 2 * s) a b (nI q) = (snI m g w (24 * s + a) (upd (lyF F k) (27 + w) (nI q)) b).2 := by
  have h6 := h.1.1
  obtain ⟨z, z9, hz⟩ := wk_ex h
  obtain ⟨e1, e2, e3⟩ := un_ex h hz z9
  have eH : ∀ c, c ≠ 3 → c < 16 → upd (lyF F k) (27 + w) (nI q) c = F c := fun c _ hc => ly_w c (by omega)
  have h3 : upd (lyF F k) (27 + w) (nI q) 3 = nI z := (ly_w 3 (by omega)).trans hz
  have h27 : upd (lyF F k) (27 + w) (nI q) (27 + w) = nI q := pk_us
  have h22 : upd (lyF F k) (27 + w) (nI q) (22 + w) = F (22 + w) := ly_w _ (by omega)
  have b1 : bd (upd (lyF F k) (27 + w) (nI q) (27 + w)) 99 := by rw [h27]; exact ⟨q, by omega, rfl⟩
  have b2 : bd (upd (lyF F k) (27 + w) (nI q) (22 + w)) 19 := by rw [h22]; exact cbd h.2.2.2.1 (by omega)
  have hh := fts_eq (m := m) (s := s) (a := a) h hw eH h3 z9 b1 b2 b 0 (by omega) (fun i hi => by have := hr i hi; rw [Nat.zero_add]; exact this) z h3 (by omega) b1 b2 rfl
  rw [Nat.zero_add] at hh
  rw [← hh, ftq, e3, co_eq h.2.2.2.1 hw]
  show _ = fts M w (112 + 2 * s) a b 0 (upd (lyF F k) (27 + w) (nI q) (27 + w)) (upd (lyF F k) (27 + w) (nI q) (22 + w)) (nI (y - z % y))
  rw [h27, h22]
theorem hm_eq {M : MM} {F k : Nat → Int32} {m : Nat → Int64} {g y o u w s a b : Nat} (h : SR M 1 F g y o u) (hw : w + 1 < g) (hb : b ≤ 6) (hr : ∀ i, i < b → M.2 (112 + 2 * s + 1) (a + i) = m (24 * s + a + i)) : ∀ n, n ≤ 100 → hmf M w (112 + 2 * s) a b n = (snO m F g w (24 * s + a) b k n).2.1
  | 0, _ => rfl
  | n + 1, hn => by
    rw [hmf, snO, ftq_eq (k := (snO m F g w (24 * s + a) b k n).1) h hw hb (by omega) hr, hm_eq (k := k) h hw hb hr n (by omega)]
    dsimp only
    split
    · rw [Int32.add_zero]
    · rfl
theorem sn_keep {F k : Nat → Int32} {m : Nat → Int64} {g w c b j : Nat} (h : ¬ (snO m F g w c b k j).2.2 = -4) : ∀ n, (snO m F g w c b k (j + n)).2.2 = (snO m F g w c b k j).2.2
  | 0 => rfl
  | n + 1 => by
    have ih := sn_keep h n
    show (if _ = 0 then (snO m F g w c b k (j + n)).2.2 else if ¬ (snO m F g w c b k (j + n)).2.2 = -4 then (snO m F g w c b k (j + n)).2.2 else nI (j + n)) = _
    rw [ih, if_pos h]
    split <;> rfl
theorem lt_eq {M : MM} {F k : Nat → Int32} {m : Nat → Int64} {g y o u w s a b : Nat} (h : SR M 1 F g y o u) (hw : w + 1 < g) (hb : b ≤ 6) (hr : ∀ i, i < b → M.2 (112 + 2 * s + 1) (a + i) = m (24 * s + a + i)) : ∀ n j, j + n = 100 → (snO m F g w (24 * s + a) b k j).2.2 = -4 → ltf M w (112 + 2 * s) a b n j = (snO m F g w (24 * s + a) b k 100).2.2
  | 0, j, hj, h4 => by
    have e : j = 100 := hj
    subst e
    exact h4.symm
  | n + 1, j, hj, h4 => by
    have e := ftq_eq (m := m) (k := (snO m F g w (24 * s + a) b k j).1) h hw hb (show j < 100 by omega) hr
    have es : (snO m F g w (24 * s + a) b k (j + 1)).2.2 = if (snI m g w (24 * s + a) (upd (lyF F (snO m F g w (24 * s + a) b k j).1) (27 + w) (nI j)) b).2 = 0 then (snO m F g w (24 * s + a) b k j).2.2 else if ¬ (snO m F g w (24 * s + a) b k j).2.2 = -4 then (snO m F g w (24 * s + a) b k j).2.2 else nI j := rfl
    rw [ltf, e]
    by_cases q : (snI m g w (24 * s + a) (upd (lyF F (snO m F g w (24 * s + a) b k j).1) (27 + w) (nI j)) b).2 = 0
    · rw [if_pos q]
      rw [if_pos q, h4] at es
      exact lt_eq h hw hb hr n (j + 1) (by omega) es
    · rw [if_neg q]
      rw [if_neg q, if_neg (fun r => r h4)] at es
      have n4 : ¬ (snO m F g w (24 * s + a) b k (j + 1)).2.2 = -4 := fun r => by
        rw [es] at r
        have := congrArg Int32.toInt r
        rw [nI_toInt (by omega)] at this
        have e4 : (-4 : Int32).toInt = -4 := rfl
        omega
      have hk := sn_keep n4 n
      rw [show j + 1 + n = 100 by omega, es] at hk
      exact hk.symm
theorem sim_seen {M : MM} {g y o u L : Nat} {x v l a b wh : Int32} {k : Nat → Int32} (h : Rel M g y o u L) : sSn M g x v l a b wh = (tSn M (M.2 128) k g x v l a b wh).2 := by
  have h6 := h.1.1.1
  unfold sSn tSn
  by_cases h0 : wi x 0 (nI (g - 1) - 1) = 0
  · rw [if_pos h0, if_pos h0]
  · rw [if_neg h0, if_neg h0]
    by_cases h1 : wi v 0 3 = 0
    · rw [if_pos h1, if_pos (show bshS v l = 0 from if_pos h1)]
    · rw [if_neg h1]
      by_cases h2 : wi l 0 3 = 0
      · rw [if_pos h2, if_pos (show bshS v l = 0 from (if_neg h1).trans (if_pos h2))]
      · have hb : ¬ bshS v l = 0 := by rw [show bshS v l = 1 from (if_neg h1).trans (if_neg h2)]; decide
        rw [if_neg h2, if_neg hb]
        by_cases h3 : wi b 1 6 = 0
        · rw [if_pos h3, if_pos h3]
        · rw [if_neg h3, if_neg h3]
          by_cases h4 : wi wh 0 1 = 0
          · rw [if_pos h4, if_pos h4]
          · rw [if_neg h4, if_neg h4]
            obtain ⟨w, hw, rfl⟩ := upto_of h0 (by omega)
            obtain ⟨b0, hb0, hb1, rfl⟩ := rng_of (a := 1) (b := 6) h3 (by decide) (by decide)
            obtain ⟨s, hs0, hs1, rfl⟩ := rng_of (a := 0) (b := 3) h1 (by decide) (by decide)
            have hs : s < 4 := by omega
            have hzn : ¬ nI b0 < 0 := nI_nlt (b := 0) (by omega) (by omega)
            rw [cl_nI (by omega), cl_nI (by omega), cl_nI (by omega)]
            by_cases h5 : rfS M (112 + 2 * s) l a (nI b0) = 0
            · have h7 := (rf_0 (h.2.2.1 s hs) hzn).mp h5
              rw [if_pos h5, if_pos h7]
              obtain ⟨a2, b2, hab, rfl, hb2⟩ := fnd_ok (shr_N h.2.2.1 s hs) hzn h7
              have hb3 : b0 = b2 := (nI_eq (by omega) (by omega)).mp hb2
              subst hb3
              rw [cl_nI (by omega)]
              obtain ⟨c1, c2⟩ := rf_ok h5
              obtain ⟨_, hp⟩ := h.2.2.1 s hs
              rcases hp with ⟨p1, _⟩ | ⟨p1, p2, p3, p4⟩
              · exact absurd p1 c1
              · have hr : ∀ i, i < b0 → M.2 (112 + 2 * s + 1) (a2 + i) = M.2 128 (24 * s + a2 + i) := fun i hi => by rw [p4 _ (by omega), Nat.add_assoc]
                dsimp only
                rw [lt_eq (k := k) h.1 (show w + 1 < g by omega) hb1 hr 100 0 (by omega) rfl, hm_eq (k := k) h.1 (show w + 1 < g by omega) hb1 hr 100 (by omega)]
            · have h7 : ¬ 0 ≤ fnd (M.1 126) (M.1 127) s l a (nI b0) := fun q => h5 ((rf_0 (h.2.2.1 s hs) hzn).mpr q)
              rw [if_neg h5, if_neg h7]
              exact rf_eq (h.2.2.1 s hs) hzn
