/-! the reference: what is foretold -/
def lyF (f h : Nat → Int32) : Nat → Int32 := cpD f h 0 0 38
theorem cpD_in (f h : Nat → Int32) {a : Nat} : ∀ m, a < m → cpD f h 0 0 m a = f a
  | 0, h0 => absurd h0 (by omega)
  | m + 1, hm => by
    simp only [cpD, upd, Nat.zero_add]
    by_cases e : a = m
    · subst e; simp
    · rw [if_neg e]
      exact cpD_in f h m (by omega)
theorem lyF_in (f h : Nat → Int32) {a : Nat} (ha : a < 38) : lyF f h a = f a := cpD_in f h 38 ha
def goN (g : Nat) : Nat → (Nat → Int32) → Nat → Int32
  | 0, h => h
  | n + 1, h => goN g n (gosF g h).1
theorem gosF_3 (g : Nat) (h6 : g ≤ 6) (h : Nat → Int32) : (gosF g h).1 3 = h 3 + 1 := by
  have hw : ∀ j, gwF h j 3 = h 3 := gwF_lo h (by decide)
  have h1 : gw3 h g 3 = h 3 + 1 := by simp [gw3, upd, hw]
  have hm : ∀ (k : Nat → Int32) j, (mch k j).1 3 = k 3 := by
    intro k j
    induction j with
    | zero => rfl
    | succ j ih => exact (mcF_lo _ j (by decide)).trans ih
  unfold gosF
  split
  · rw [hm, h1]
  · exact h1
theorem goN_fr (g : Nat) (h6 : g ≤ 6) {a : Nat} (h3 : a ≠ 3) (ha : a < 16 ∨ 32 ≤ a) : ∀ m (h : Nat → Int32), goN g m h a = h a
  | 0, _ => rfl
  | m + 1, h => by rw [goN, goN_fr g h6 h3 ha m, gosF_fr g h6 h h3 ha]
theorem goN_3 (g : Nat) (h6 : g ≤ 6) : ∀ m (h : Nat → Int32) (ww : Nat), h 3 = nI ww → goN g m h 3 = nI (ww + m)
  | 0, _, _, e => e
  | m + 1, h, ww, e => by
    rw [goN, goN_3 g h6 m _ (ww + 1) (by rw [gosF_3 g h6, e, nI_1])]
    congr 1
    omega
theorem rem_N {h : Nat → Int32} {yy ww : Nat} (h1 : h 1 = nI yy) (h3 : h 3 = nI ww) (y0 : 0 < yy) (y9 : yy ≤ 99) (w9 : ww ≤ 20000) : h 3 - h 3 / h 1 * h 1 = nI (ww % yy) := by
  rw [h1, h3]
  exact pk_rem (by omega) y0 (by omega)
theorem utl_N {h : Nat → Int32} {yy ww : Nat} (h1 : h 1 = nI yy) (h3 : h 3 = nI ww) (y0 : 0 < yy) (y9 : yy ≤ 99) (w9 : ww ≤ 20000) : utl h = nI (yy - ww % yy) := by
  unfold utl rem
  rw [rem_N h1 h3 y0 y9 w9, h1, pk_sub (by have := Nat.mod_lt ww y0; omega)]
theorem utl_P {h : Nat → Int32} {yy ww : Nat} (h1 : h 1 = nI yy) (h3 : h 3 = nI ww) (y0 : 0 < yy) (y9 : yy ≤ 99) (w9 : ww ≤ 20000) : h 1 - (h 3 - h 3 / h 1 * h 1) - 1 = nI (yy - ww % yy - 1) := by
  have h2 := Nat.mod_lt ww y0
  rw [rem_N h1 h3 y0 y9 w9, h1, pk_sub (by omega)]
  exact pk_sub (b := 1) (by omega)
theorem yy_pos {x : Int32} {yy : Nat} (h1 : x = nI yy) (y0 : 0 < yy) (y9 : yy ≤ 99) : 0 < x := by
  rw [h1]
  exact nI_lt (a := 0) y0 (by omega)
set_option maxRecDepth 100000 in
set_option maxHeartbeats 4000000 in
theorem c_X7_layAside {κ : KX} {M : MM} {Q : Option Value → va_W → Prop} {h : Nat → Int32}   (hQ : Q (none) (wM κ (rI M 122 (lyF (M.1 121) h)))) : CT κ (1, 0, 0) mX7_layAside [rv κ 120] (wM κ (rI M 122 h)) Q := by
  refine CT.of okX7_layAside [some (rv κ 120)] (Nat.le_of_ble_eq_true rfl) rfl ?_
  refine wp_rload_0 dX7_layAside_0 ?_
  refine wp_getR (t := 121) fX7_7 dX7_layAside_1 kd_120 rfl (rf_120_0) ?_
  refine wp_iconst (v := 0) dX7_layAside_4 rfl ?_
  refine wp_rload_0 dX7_layAside_5 ?_
  refine wp_getR (t := 122) fX7_13 dX7_layAside_6 kd_120 rfl (rf_120_1) ?_
  refine wp_iconst (v := 0) dX7_layAside_9 rfl ?_
  refine wp_bipush (v := 38) dX7_layAside_10 rfl ?_
  refine wp_callS_5 kX7_139 dX7_layAside_12 (c_X7_copiesD (k := 122) (q := 121) (a := 0) (b := 0) (m := 38) ar_122 ar_121 (by decide) (by decide) (by decide) ?_) ⟨Nat.le_of_ble_eq_true rfl, Nat.le_of_ble_eq_true rfl, Nat.le_of_ble_eq_true rfl⟩ (Nat.le_of_ble_eq_true rfl)
  refine wp_vret dX7_layAside_15 rfl rfl ?_
  exact hQ
set_option maxRecDepth 100000 in
set_option maxHeartbeats 4000000 in
theorem l_X7_go {κ : KX} {M : MM} {Q : Option Value → va_W → Prop} {g m : Nat} (h6 : g ≤ 6) (hm : m < 1000) : ∀ n j (h : Nat → Int32), j + n = m → h 0 = nI g → 0 < h 1 → Q none (wM κ (rI M 122 (goN g n h))) → WP κ (3, 0, 0) mX7_go 2 [some (rv κ 120), some (.int (nI m)), some (.int (nI j)), none] [] (wM κ (rI M 122 h)) (0, 0) Q := by
  intro n
  induction n with
  | zero =>
    intro j h hn hg hy hQ
    refine wp_iload_2 dX7_go_2 ?_
    refine wp_iload_1 dX7_go_3 ?_
    refine wp_icmp_ge (tgt := 21) dX7_go_4 rfl (fun c4 => ?_) (fun c4 => absurd (nI_le (by omega) (by omega)) c4)
    refine wp_vret dX7_go_21 rfl rfl ?_
    exact hQ
  | succ n ih =>
    intro j h hn hg hy hQ
    refine wp_iload_2 dX7_go_2 ?_
    refine wp_iload_1 dX7_go_3 ?_
    refine wp_icmp_ge (tgt := 21) dX7_go_4 rfl (fun c4 => absurd c4 (nI_ge (by omega) (by omega))) (fun c4 => ?_)
    refine wp_rload_0 dX7_go_7 ?_
    refine wp_getR (t := 122) fX7_13 dX7_go_8 kd_120 rfl (rf_120_1) ?_
    refine wp_callS_1 kX7_156 dX7_go_11 (c_X7_goes (k := 122) (h := h) (g := g) ar_122 hg h6 hy ?_) ⟨Nat.le_of_ble_eq_true rfl, Nat.le_of_ble_eq_true rfl, Nat.le_of_ble_eq_true rfl⟩ (Nat.le_of_ble_eq_true rfl)
    refine wp_istore_3 dX7_go_14 (Nat.le_of_ble_eq_true rfl) rfl ?_
    refine wp_iinc_2 (v := nI (j + 1)) dX7_go_15 (nI_inc _) (Nat.le_of_ble_eq_true rfl) rfl ?_
    refine wp_goto (tgt := 2) dX7_go_18 rfl ?_
    refine wp_drop_3 ?_
    exact ih (j + 1) (gosF g h).1 (by omega) (by rw [gosF_fr g h6 _ (by decide) (by decide)]; exact hg) (by rw [gosF_fr g h6 _ (by decide) (by decide)]; exact hy) hQ
set_option maxRecDepth 100000 in
set_option maxHeartbeats 4000000 in
theorem c_X7_go {κ : KX} {M : MM} {Q : Option Value → va_W → Prop} {h : Nat → Int32} {g m : Nat} (hg : h 0 = nI g) (h6 : g ≤ 6) (hy : 0 < h 1) (hm : m < 1000) (hQ : Q (none) (wM κ (rI M 122 (goN g m h)))) : CT κ (3, 0, 0) mX7_go [rv κ 120, .int (nI m)] (wM κ (rI M 122 h)) Q := by
  refine CT.of okX7_go [some (rv κ 120), some (.int (nI m)), none, none] (Nat.le_of_ble_eq_true rfl) rfl ?_
  refine wp_iconst (v := 0) dX7_go_0 rfl ?_
  refine wp_istore_2 dX7_go_1 (Nat.le_of_ble_eq_true rfl) rfl ?_
  exact l_X7_go h6 hm m 0 h (by omega) hg hy hQ
def ahB (wh : Int32) : Nat := if ¬ wh = 0 then 27 else 22
def tAh (f h : Nat → Int32) (g : Nat) (x y wh : Int32) : (Nat → Int32) × Int32 := if ¬ x = -4 ∧ wi x 0 (nI (g - 1) - 1) = 0 then (h, -1) else if wi y 0 104 = 0 then (h, -1) else if wi wh 0 1 = 0 then (h, -1) else (goN g (cl y) (lyF f h), if x = -4 then smF (goN g (cl y) (lyF f h)) (ahB wh) 5 else goN g (cl y) (lyF f h) (ahB wh + cl x))
set_option maxRecDepth 100000 in
set_option maxHeartbeats 4000000 in
theorem c_X7_aheadA {κ : KX} {M : MM} {Q : Option Value → va_W → Prop} {h : Nat → Int32} {g : Nat} {y wh : Int32} (hg : M.1 121 0 = nI g) (h6 : g ≤ 6) (hy : 0 < M.1 121 1) (hQ : Q (some (.int (tAh (M.1 121) h g (-4) y wh).2)) (wM κ (rI M 122 (tAh (M.1 121) h g (-4) y wh).1))) : CT κ (4, 0, 0) mX7_ahead [rv κ 120, .int (-4), .int y, .int wh] (wM κ (rI M 122 h)) Q := by
  refine CT.of okX7_ahead [some (rv κ 120), some (.int (-4)), some (.int y), some (.int wh), none] (Nat.le_of_ble_eq_true rfl) rfl ?_
  refine wp_iload_1 dX7_ahead_0 ?_
  refine wp_bipush (v := (-4)) dX7_ahead_1 rfl ?_
  refine wp_icmp_eq (tgt := 14) dX7_ahead_3 rfl (fun c3 => ?_) (fun c3 => absurd (rfl) c3)
  refine wp_iload_2 dX7_ahead_14 ?_
  refine wp_i2l dX7_ahead_15 ?_
  refine wp_lconst (v := 0) dX7_ahead_16 rfl ?_
  refine wp_ldc2 nX7_182 dX7_ahead_17 ?_
  refine wp_callS_3 kX7_43 dX7_ahead_20 (c_X7_in (lo := 0) (hi := 104) (by decide) (by decide) ?_) ⟨Nat.le_of_ble_eq_true rfl, Nat.le_of_ble_eq_true rfl, Nat.le_of_ble_eq_true rfl⟩ (Nat.le_of_ble_eq_true rfl)
  refine wp_if_eq (tgt := 33) dX7_ahead_23 rfl (fun c23 => ?_) (fun c23 => ?_)
  · refine wp_iconst (v := (-1)) dX7_ahead_33 rfl ?_
    refine wp_iret dX7_ahead_34 rfl rfl ?_
    first
      | (rw [tAh, if_neg (fun q => q.1 rfl), if_pos c23] at hQ; exact hQ)
      | (rw [tAh, if_neg (fun q => q.1 rfl), if_neg c23, if_pos c30] at hQ; exact hQ)
      | (rw [tAh, if_neg (fun q => q.1 rfl), if_neg c23, if_neg c30] at hQ; exact hQ)
  · obtain ⟨m, hm1, hm2, rfl⟩ := rng_of (a := 0) (b := 104) c23 (by decide) (by decide)
    refine wp_iload_3 dX7_ahead_26 ?_
    refine wp_callS_1 kX7_163 dX7_ahead_27 (c_X7_isTwo ?_) ⟨Nat.le_of_ble_eq_true rfl, Nat.le_of_ble_eq_true rfl, Nat.le_of_ble_eq_true rfl⟩ (Nat.le_of_ble_eq_true rfl)
    refine wp_if_ne (tgt := 35) dX7_ahead_30 rfl (fun c30 => ?_) (fun c30 => ?_)
    · refine wp_rload_0 dX7_ahead_35 ?_
      refine wp_callV_0 kX7_184 dX7_ahead_36 kd_120 rfl (c_X7_layAside (M := M) ?_) ⟨Nat.le_of_ble_eq_true rfl, Nat.le_of_ble_eq_true rfl, Nat.le_of_ble_eq_true rfl⟩ (Nat.le_of_ble_eq_true rfl)
      refine wp_rload_0 dX7_ahead_39 ?_
      refine wp_iload_2 dX7_ahead_40 ?_
      refine wp_callV_1 kX7_187 dX7_ahead_41 kd_120 rfl (c_X7_go (M := M) (g := g) (m := m) (h := lyF (M.1 121) h) (by rw [lyF_in _ _ (by decide)]; exact hg) h6 (by rw [lyF_in _ _ (by decide)]; exact hy) (by omega) ?_) ⟨Nat.le_of_ble_eq_true rfl, Nat.le_of_ble_eq_true rfl, Nat.le_of_ble_eq_true rfl⟩ (Nat.le_of_ble_eq_true rfl)
      refine wp_iload_3 dX7_ahead_44 ?_
      refine wp_if_ne (tgt := 53) dX7_ahead_45 rfl (fun c45 => ?_) (fun c45 => ?_)
      · refine wp_bipush (v := 27) dX7_ahead_53 rfl ?_
        refine wp_istore_4 dX7_ahead_55 (Nat.le_of_ble_eq_true rfl) rfl ?_
        refine wp_iload_1 dX7_ahead_57 ?_
        refine wp_bipush (v := (-4)) dX7_ahead_58 rfl ?_
        refine wp_icmp_ne (tgt := 76) dX7_ahead_60 rfl (fun c60 => absurd (rfl) c60) (fun c60 => ?_)
        refine wp_rload_0 dX7_ahead_63 ?_
        refine wp_getR (t := 122) fX7_13 dX7_ahead_64 kd_120 rfl (rf_120_1) ?_
        refine wp_iload_4 dX7_ahead_67 ?_
        refine wp_iconst (v := 5) dX7_ahead_69 rfl ?_
        refine wp_callS_3 kX7_63 dX7_ahead_70 (c_X7_sumOf (k := 122) (m := 5) ar_122 (by decide) ?_) ⟨Nat.le_of_ble_eq_true rfl, Nat.le_of_ble_eq_true rfl, Nat.le_of_ble_eq_true rfl⟩ (Nat.le_of_ble_eq_true rfl)
        refine wp_goto (tgt := 85) dX7_ahead_73 rfl ?_
        refine wp_iret dX7_ahead_85 rfl rfl ?_
        first
          | (rw [tAh, if_neg (fun q => q.1 rfl), if_neg c23, if_neg c30, cl_nI (by omega), if_pos rfl, show ahB wh = 27 from if_pos c45] at hQ; exact hQ)
          | (rw [tAh, if_neg (fun q => q.1 rfl), if_neg c23, if_neg c30, cl_nI (by omega), if_pos rfl, show ahB wh = 22 from if_neg (fun q => q c45)] at hQ; exact hQ)
      · refine wp_bipush (v := 22) dX7_ahead_48 rfl ?_
        refine wp_goto (tgt := 55) dX7_ahead_50 rfl ?_
        refine wp_istore_4 dX7_ahead_55 (Nat.le_of_ble_eq_true rfl) rfl ?_
        refine wp_iload_1 dX7_ahead_57 ?_
        refine wp_bipush (v := (-4)) dX7_ahead_58 rfl ?_
        refine wp_icmp_ne (tgt := 76) dX7_ahead_60 rfl (fun c60 => absurd (rfl) c60) (fun c60 => ?_)
        refine wp_rload_0 dX7_ahead_63 ?_
        refine wp_getR (t := 122) fX7_13 dX7_ahead_64 kd_120 rfl (rf_120_1) ?_
        refine wp_iload_4 dX7_ahead_67 ?_
        refine wp_iconst (v := 5) dX7_ahead_69 rfl ?_
        refine wp_callS_3 kX7_63 dX7_ahead_70 (c_X7_sumOf (k := 122) (m := 5) ar_122 (by decide) ?_) ⟨Nat.le_of_ble_eq_true rfl, Nat.le_of_ble_eq_true rfl, Nat.le_of_ble_eq_true rfl⟩ (Nat.le_of_ble_eq_true rfl)
        refine wp_goto (tgt := 85) dX7_ahead_73 rfl ?_
        refine wp_iret dX7_ahead_85 rfl rfl ?_
        first
          | (rw [tAh, if_neg (fun q => q.1 rfl), if_neg c23, if_neg c30, cl_nI (by omega), if_pos rfl, show ahB wh = 27 from if_pos c45] at hQ; exact hQ)
          | (rw [tAh, if_neg (fun q => q.1 rfl), if_neg c23, if_neg c30, cl_nI (by omega), if_pos rfl, show ahB wh = 22 from if_neg (fun q => q c45)] at hQ; exact hQ)
    · refine wp_iconst (v := (-1)) dX7_ahead_33 rfl ?_
      refine wp_iret dX7_ahead_34 rfl rfl ?_
      first
        | (rw [tAh, if_neg (fun q => q.1 rfl), if_pos c23] at hQ; exact hQ)
        | (rw [tAh, if_neg (fun q => q.1 rfl), if_neg c23, if_pos c30] at hQ; exact hQ)
        | (rw [tAh, if_neg (fun q => q.1 rfl), if_neg c23, if_neg c30] at hQ; exact hQ)
set_option maxRecDepth 100000 in
set_option maxHeartbeats 4000000 in
theorem c_X7_aheadW {κ : KX} {M : MM} {Q : Option Value → va_W → Prop} {h : Nat → Int32} {g : Nat} {x y wh : Int32} (hx : ¬ x = -4) (hg : M.1 121 0 = nI g) (h6 : g ≤ 6) (hy : 0 < M.1 121 1) (hQ : Q (some (.int (tAh (M.1 121) h g x y wh).2)) (wM κ (rI M 122 (tAh (M.1 121) h g x y wh).1))) : CT κ (4, 0, 0) mX7_ahead [rv κ 120, .int x, .int y, .int wh] (wM κ (rI M 122 h)) Q := by
  refine CT.of okX7_ahead [some (rv κ 120), some (.int x), some (.int y), some (.int wh), none] (Nat.le_of_ble_eq_true rfl) rfl ?_
  refine wp_iload_1 dX7_ahead_0 ?_
  refine wp_bipush (v := (-4)) dX7_ahead_1 rfl ?_
  refine wp_icmp_eq (tgt := 14) dX7_ahead_3 rfl (fun c3 => absurd c3 (hx)) (fun c3 => ?_)
  refine wp_rload_0 dX7_ahead_6 ?_
  refine wp_iload_1 dX7_ahead_7 ?_
  refine wp_callV_1 kX7_83 dX7_ahead_8 kd_120 rfl (c_X7_isWall (M := rI M 122 h) (by rw [rI_ne _ _ (by decide)]; exact hg) h6 ?_) ⟨Nat.le_of_ble_eq_true rfl, Nat.le_of_ble_eq_true rfl, Nat.le_of_ble_eq_true rfl⟩ (Nat.le_of_ble_eq_true rfl)
  refine wp_if_eq (tgt := 33) dX7_ahead_11 rfl (fun c11 => ?_) (fun c11 => ?_)
  · rw [tAh, if_pos (And.intro hx c11)] at hQ
    refine wp_iconst (v := (-1)) dX7_ahead_33 rfl ?_
    refine wp_iret dX7_ahead_34 rfl rfl ?_
    first
      | exact hQ
      | (rw [if_pos c23] at hQ; exact hQ)
      | (rw [if_neg c23, if_pos c30] at hQ; exact hQ)
  · obtain ⟨w, hw, rfl⟩ := upto_of c11 (by omega)
    rw [tAh, if_neg (fun q => c11 q.2)] at hQ
    refine wp_iload_2 dX7_ahead_14 ?_
    refine wp_i2l dX7_ahead_15 ?_
    refine wp_lconst (v := 0) dX7_ahead_16 rfl ?_
    refine wp_ldc2 nX7_182 dX7_ahead_17 ?_
    refine wp_callS_3 kX7_43 dX7_ahead_20 (c_X7_in (lo := 0) (hi := 104) (by decide) (by decide) ?_) ⟨Nat.le_of_ble_eq_true rfl, Nat.le_of_ble_eq_true rfl, Nat.le_of_ble_eq_true rfl⟩ (Nat.le_of_ble_eq_true rfl)
    refine wp_if_eq (tgt := 33) dX7_ahead_23 rfl (fun c23 => ?_) (fun c23 => ?_)
    · refine wp_iconst (v := (-1)) dX7_ahead_33 rfl ?_
      refine wp_iret dX7_ahead_34 rfl rfl ?_
      first
        | exact hQ
        | (rw [if_pos c23] at hQ; exact hQ)
        | (rw [if_neg c23, if_pos c30] at hQ; exact hQ)
    · obtain ⟨m, hm1, hm2, rfl⟩ := rng_of (a := 0) (b := 104) c23 (by decide) (by decide)
      refine wp_iload_3 dX7_ahead_26 ?_
      refine wp_callS_1 kX7_163 dX7_ahead_27 (c_X7_isTwo ?_) ⟨Nat.le_of_ble_eq_true rfl, Nat.le_of_ble_eq_true rfl, Nat.le_of_ble_eq_true rfl⟩ (Nat.le_of_ble_eq_true rfl)
      refine wp_if_ne (tgt := 35) dX7_ahead_30 rfl (fun c30 => ?_) (fun c30 => ?_)
      · refine wp_rload_0 dX7_ahead_35 ?_
        refine wp_callV_0 kX7_184 dX7_ahead_36 kd_120 rfl (c_X7_layAside (M := M) ?_) ⟨Nat.le_of_ble_eq_true rfl, Nat.le_of_ble_eq_true rfl, Nat.le_of_ble_eq_true rfl⟩ (Nat.le_of_ble_eq_true rfl)
        refine wp_rload_0 dX7_ahead_39 ?_
        refine wp_iload_2 dX7_ahead_40 ?_
        refine wp_callV_1 kX7_187 dX7_ahead_41 kd_120 rfl (c_X7_go (M := M) (g := g) (m := m) (h := lyF (M.1 121) h) (by rw [lyF_in _ _ (by decide)]; exact hg) h6 (by rw [lyF_in _ _ (by decide)]; exact hy) (by omega) ?_) ⟨Nat.le_of_ble_eq_true rfl, Nat.le_of_ble_eq_true rfl, Nat.le_of_ble_eq_true rfl⟩ (Nat.le_of_ble_eq_true rfl)
        refine wp_iload_3 dX7_ahead_44 ?_
        refine wp_if_ne (tgt := 53) dX7_ahead_45 rfl (fun c45 => ?_) (fun c45 => ?_)
        · refine wp_bipush (v := 27) dX7_ahead_53 rfl ?_
          refine wp_istore_4 dX7_ahead_55 (Nat.le_of_ble_eq_true rfl) rfl ?_
          refine wp_iload_1 dX7_ahead_57 ?_
          refine wp_bipush (v := (-4)) dX7_ahead_58 rfl ?_
          refine wp_icmp_ne (tgt := 76) dX7_ahead_60 rfl (fun c60 => ?_) (fun c60 => absurd c60 (hx))
          refine wp_rload_0 dX7_ahead_76 ?_
          refine wp_getR (t := 122) fX7_13 dX7_ahead_77 kd_120 rfl (rf_120_1) ?_
          refine wp_iload_4 dX7_ahead_80 ?_
          refine wp_iload_1 dX7_ahead_82 ?_
          refine wp_iadd dX7_ahead_83 ?_
          refine wp_aldF (j := (27 + w)) dX7_ahead_84 ar_122 (nI_add _ _) (by omega) ?_
          refine wp_iret dX7_ahead_85 rfl rfl ?_
          first
            | (rw [if_neg c23, if_neg c30, cl_nI (by omega), cl_nI (by omega), if_neg hx, show ahB wh = 27 from if_pos c45] at hQ; exact hQ)
            | (rw [if_neg c23, if_neg c30, cl_nI (by omega), cl_nI (by omega), if_neg hx, show ahB wh = 22 from if_neg (fun q => q c45)] at hQ; exact hQ)
        · refine wp_bipush (v := 22) dX7_ahead_48 rfl ?_
          refine wp_goto (tgt := 55) dX7_ahead_50 rfl ?_
          refine wp_istore_4 dX7_ahead_55 (Nat.le_of_ble_eq_true rfl) rfl ?_
          refine wp_iload_1 dX7_ahead_57 ?_
          refine wp_bipush (v := (-4)) dX7_ahead_58 rfl ?_
          refine wp_icmp_ne (tgt := 76) dX7_ahead_60 rfl (fun c60 => ?_) (fun c60 => absurd c60 (hx))
          refine wp_rload_0 dX7_ahead_76 ?_
          refine wp_getR (t := 122) fX7_13 dX7_ahead_77 kd_120 rfl (rf_120_1) ?_
          refine wp_iload_4 dX7_ahead_80 ?_
          refine wp_iload_1 dX7_ahead_82 ?_
          refine wp_iadd dX7_ahead_83 ?_
          refine wp_aldF (j := (22 + w)) dX7_ahead_84 ar_122 (nI_add _ _) (by omega) ?_
          refine wp_iret dX7_ahead_85 rfl rfl ?_
          first
            | (rw [if_neg c23, if_neg c30, cl_nI (by omega), cl_nI (by omega), if_neg hx, show ahB wh = 27 from if_pos c45] at hQ; exact hQ)
            | (rw [if_neg c23, if_neg c30, cl_nI (by omega), cl_nI (by omega), if_neg hx, show ahB wh = 22 from if_neg (fun q => q c45)] at hQ; exact hQ)
      · refine wp_iconst (v := (-1)) dX7_ahead_33 rfl ?_
        refine wp_iret dX7_ahead_34 rfl rfl ?_
        first
          | exact hQ
          | (rw [if_pos c23] at hQ; exact hQ)
          | (rw [if_neg c23, if_pos c30] at hQ; exact hQ)
theorem c_X7_ahead {κ : KX} {M : MM} {Q : Option Value → va_W → Prop} {h : Nat → Int32} {g : Nat} {x y wh : Int32} (hg : M.1 121 0 = nI g) (h6 : g ≤ 6) (hy : 0 < M.1 121 1) (hQ : Q (some (.int (tAh (M.1 121) h g x y wh).2)) (wM κ (rI M 122 (tAh (M.1 121) h g x y wh).1))) : CT κ (4, 0, 0) mX7_ahead [rv κ 120, .int x, .int y, .int wh] (wM κ (rI M 122 h)) Q := by
  by_cases e : x = -4
  · subst e
    exact c_X7_aheadA hg h6 hy hQ
  · exact c_X7_aheadW e hg h6 hy hQ
def stl (g : Nat) : Nat → Nat → (Nat → Int32) → (Nat → Int32) × Int32
  | 0, _, h => (h, -4)
  | n + 1, j, h => if ¬ (gosF g (goN g (cl (utl h - 1)) h)).2 = 0 then stl g n (j + 1) (gosF g (goN g (cl (utl h - 1)) h)).1 else ((gosF g (goN g (cl (utl h - 1)) h)).1, nI j)
set_option maxRecDepth 100000 in
set_option maxHeartbeats 4000000 in
theorem l_X7_settles {κ : KX} {M : MM} {Q : Option Value → va_W → Prop} {g yy : Nat} (h6 : g ≤ 6) (y0 : 0 < yy) (y9 : yy ≤ 99) : ∀ n j ww (h : Nat → Int32), j + n = 21 → h 0 = nI g → h 1 = nI yy → h 3 = nI ww → ww + 100 * n ≤ 20000 → Q (some (.int (stl g n j h).2)) (wM κ (rI M 122 (stl g n j h).1)) → WP κ (4, 0, 0) mX7_settles 6 [some (rv κ 120), some (.int (nI j))] [] (wM κ (rI M 122 h)) (0, 0) Q := by
  intro n
  induction n with
  | zero =>
    intro j ww h hn hg h1 h3 hb hQ
    have hn : j = 21 := hn
    subst hn
    refine wp_iload_1 dX7_settles_6 ?_
    refine wp_bipush (v := 21) dX7_settles_7 rfl ?_
    refine wp_icmp_ge (tgt := 56) dX7_settles_9 rfl (fun c9 => ?_) (fun c9 => absurd (nI_le (a := 21) (b := 21) (by omega) (by omega)) c9)
    refine wp_bipush (v := (-4)) dX7_settles_56 rfl ?_
    refine wp_iret dX7_settles_58 rfl rfl ?_
    exact hQ
  | succ n ih =>
    intro j ww h hn hg h1 h3 hb hQ
    have hy := yy_pos h1 y0 y9
    have hmd := Nat.mod_lt ww y0
    have hcl : cl (utl h - 1) = (yy - ww % yy - 1) := by
      rw [show utl h - 1 = nI (yy - ww % yy - 1) from utl_P h1 h3 y0 y9 (by omega)]
      exact cl_nI (by omega)
    rw [stl, hcl] at hQ
    refine wp_iload_1 dX7_settles_6 ?_
    refine wp_bipush (v := 21) dX7_settles_7 rfl ?_
    refine wp_icmp_ge (tgt := 56) dX7_settles_9 rfl (fun c9 => absurd c9 (nI_ge (b := 21) (by omega) (by omega))) (fun c9 => ?_)
    refine wp_rload_0 dX7_settles_12 ?_
    refine wp_rload_0 dX7_settles_13 ?_
    refine wp_getR (t := 122) fX7_13 dX7_settles_14 kd_120 rfl (rf_120_1) ?_
    refine wp_iconst (v := 1) dX7_settles_17 rfl ?_
    refine wp_aldF (j := 1) dX7_settles_18 ar_122 (rfl) (by omega) ?_
    refine wp_rload_0 dX7_settles_19 ?_
    refine wp_getR (t := 122) fX7_13 dX7_settles_20 kd_120 rfl (rf_120_1) ?_
    refine wp_iconst (v := 3) dX7_settles_23 rfl ?_
    refine wp_aldF (j := 3) dX7_settles_24 ar_122 (rfl) (by omega) ?_
    refine wp_rload_0 dX7_settles_25 ?_
    refine wp_getR (t := 122) fX7_13 dX7_settles_26 kd_120 rfl (rf_120_1) ?_
    refine wp_iconst (v := 1) dX7_settles_29 rfl ?_
    refine wp_aldF (j := 1) dX7_settles_30 ar_122 (rfl) (by omega) ?_
    refine wp_irem dX7_settles_31 (gt_ne0 hy) ?_
    refine wp_isub dX7_settles_32 ?_
    refine wp_iconst (v := 1) dX7_settles_33 rfl ?_
    refine wp_isub dX7_settles_34 ?_
    rw [utl_P h1 h3 y0 y9 (by omega)]
    refine wp_callV_1 kX7_187 dX7_settles_35 kd_120 rfl (c_X7_go (M := M) (g := g) (m := (yy - ww % yy - 1)) (h := h) hg h6 hy (by omega) ?_) ⟨Nat.le_of_ble_eq_true rfl, Nat.le_of_ble_eq_true rfl, Nat.le_of_ble_eq_true rfl⟩ (Nat.le_of_ble_eq_true rfl)
    refine wp_rload_0 dX7_settles_38 ?_
    refine wp_getR (t := 122) fX7_13 dX7_settles_39 kd_120 rfl (rf_120_1) ?_
    refine wp_callS_1 kX7_156 dX7_settles_42 (c_X7_goes (k := 122) (h := goN g (yy - ww % yy - 1) h) (g := g) ar_122 (by rw [goN_fr g h6 (by decide) (by decide)]; exact hg) h6 (by rw [goN_fr g h6 (by decide) (by decide)]; exact hy) ?_) ⟨Nat.le_of_ble_eq_true rfl, Nat.le_of_ble_eq_true rfl, Nat.le_of_ble_eq_true rfl⟩ (Nat.le_of_ble_eq_true rfl)
    refine wp_if_ne (tgt := 50) dX7_settles_45 rfl (fun c45 => ?_) (fun c45 => ?_)
    · refine wp_iinc_1 (v := nI (j + 1)) dX7_settles_50 (nI_inc _) (Nat.le_of_ble_eq_true rfl) rfl ?_
      refine wp_goto (tgt := 6) dX7_settles_53 rfl ?_
      rw [if_pos c45] at hQ
      exact ih (j + 1) (ww + (yy - ww % yy - 1) + 1) _ (by omega) (by rw [gosF_fr g h6 _ (by decide) (by decide), goN_fr g h6 (by decide) (by decide)]; exact hg) (by rw [gosF_fr g h6 _ (by decide) (by decide), goN_fr g h6 (by decide) (by decide)]; exact h1) (by rw [gosF_3 g h6, goN_3 g h6 _ _ ww h3, nI_1]) (by omega) hQ
    · refine wp_iload_1 dX7_settles_48 ?_
      refine wp_iret dX7_settles_49 rfl rfl ?_
      rw [if_neg (fun q => q c45)] at hQ
      exact hQ
set_option maxRecDepth 100000 in
set_option maxHeartbeats 4000000 in
theorem c_X7_settles {κ : KX} {M : MM} {Q : Option Value → va_W → Prop} {h : Nat → Int32} {g yy ww : Nat} (hg : M.1 121 0 = nI g) (h6 : g ≤ 6) (hy : M.1 121 1 = nI yy) (y0 : 0 < yy) (y9 : yy ≤ 99) (hw3 : M.1 121 3 = nI ww) (w9 : ww ≤ 10000) (hQ : Q (some (.int (stl g 21 0 (lyF (M.1 121) h)).2)) (wM κ (rI M 122 (stl g 21 0 (lyF (M.1 121) h)).1))) : CT κ (4, 0, 0) mX7_settles [rv κ 120] (wM κ (rI M 122 h)) Q := by
  refine CT.of okX7_settles [some (rv κ 120), none] (Nat.le_of_ble_eq_true rfl) rfl ?_
  refine wp_rload_0 dX7_settles_0 ?_
  refine wp_callV_0 kX7_184 dX7_settles_1 kd_120 rfl (c_X7_layAside (M := M) ?_) ⟨Nat.le_of_ble_eq_true rfl, Nat.le_of_ble_eq_true rfl, Nat.le_of_ble_eq_true rfl⟩ (Nat.le_of_ble_eq_true rfl)
  refine wp_iconst (v := 0) dX7_settles_4 rfl ?_
  refine wp_istore_1 dX7_settles_5 (Nat.le_of_ble_eq_true rfl) rfl ?_
  exact l_X7_settles h6 y0 y9 21 0 ww (lyF (M.1 121) h) (by omega) (by rw [lyF_in _ _ (by decide)]; exact hg) (by rw [lyF_in _ _ (by decide)]; exact hy) (by rw [lyF_in _ _ (by decide)]; exact hw3) (by omega) hQ
def lgK (f : Nat → Int32) (g w : Nat) (x : Int32) (h : Nat → Int32) : Nat → Int32 := goN g (cl (utl f)) (upd (lyF f h) (27 + w) (asQ (lyF f h (27 + w) + x)))
def lgM (f : Nat → Int32) (g w : Nat) (x : Int32) (h : Nat → Int32) : Nat → Int32 := goN g (cl (utl f)) (upd (lyF f h) (27 + w) (asQ (lyF f h (27 + w) - x)))
def lgF (f : Nat → Int32) (g w : Nat) (hh : Int32) : Nat → Nat → (Nat → Int32) → (Nat → Int32) × Int32
  | 0, _, h => (h, -4)
  | n + 1, j, h => if hh < lgM f g w (nI j) h (22 + w) then lgF f g w hh n (j + 1) (lgM f g w (nI j) h) else (lgM f g w (nI j) h, nI j * nI j)
def tLg (f h : Nat → Int32) (g : Nat) (x hh : Int32) : (Nat → Int32) × Int32 := if wi x 0 (nI (g - 1) - 1) = 0 then (h, -1) else if wi hh 0 19 = 0 then (h, -1) else lgF f g (cl x) hh 21 0 h
theorem upd_o {f : Nat → Int32} {a b : Nat} {v : Int32} (h : b ≠ a) : upd f a v b = f b := if_neg h
set_option maxRecDepth 100000 in
set_option maxHeartbeats 4000000 in
theorem l_X7_leastGift {κ : KX} {M : MM} {Q : Option Value → va_W → Prop} {g yy ww w : Nat} {hh : Int32} (hg : M.1 121 0 = nI g) (h6 : g ≤ 6) (hy : M.1 121 1 = nI yy) (y0 : 0 < yy) (y9 : yy ≤ 99) (hw3 : M.1 121 3 = nI ww) (w9 : ww ≤ 10000) (hw : w < 5) : ∀ n j (h : Nat → Int32), j + n = 21 → Q (some (.int (lgF (M.1 121) g w hh n j h).2)) (wM κ (rI M 122 (lgF (M.1 121) g w hh n j h).1)) → WP κ (4, 0, 0) mX7_leastGift 24 [some (rv κ 120), some (.int (nI w)), some (.int hh), some (.int (nI j))] [] (wM κ (rI M 122 h)) (0, 0) Q := by
  intro n
  induction n with
  | zero =>
    intro j h hn hQ
    have hn : j = 21 := hn
    subst hn
    refine wp_iload_3 dX7_leastGift_24 ?_
    refine wp_bipush (v := 21) dX7_leastGift_25 rfl ?_
    refine wp_icmp_ge (tgt := 88) dX7_leastGift_27 rfl (fun c27 => ?_) (fun c27 => absurd (nI_le (a := 21) (b := 21) (by omega) (by omega)) c27)
    refine wp_bipush (v := (-4)) dX7_leastGift_88 rfl ?_
    refine wp_iret dX7_leastGift_90 rfl rfl ?_
    exact hQ
  | succ n ih =>
    intro j h hn hQ
    have hmd := Nat.mod_lt ww y0
    have hcl : cl (utl (M.1 121)) = (yy - ww % yy) := by
      rw [utl_N hy hw3 y0 y9 (by omega)]
      exact cl_nI (by omega)
    rw [lgF] at hQ
    refine wp_iload_3 dX7_leastGift_24 ?_
    refine wp_bipush (v := 21) dX7_leastGift_25 rfl ?_
    refine wp_icmp_ge (tgt := 88) dX7_leastGift_27 rfl (fun c27 => absurd c27 (nI_ge (b := 21) (by omega) (by omega))) (fun c27 => ?_)
    refine wp_rload_0 dX7_leastGift_30 ?_
    refine wp_callV_0 kX7_184 dX7_leastGift_31 kd_120 rfl (c_X7_layAside (M := M) ?_) ⟨Nat.le_of_ble_eq_true rfl, Nat.le_of_ble_eq_true rfl, Nat.le_of_ble_eq_true rfl⟩ (Nat.le_of_ble_eq_true rfl)
    refine wp_rload_0 dX7_leastGift_34 ?_
    refine wp_getR (t := 122) fX7_13 dX7_leastGift_35 kd_120 rfl (rf_120_1) ?_
    refine wp_bipush (v := 27) dX7_leastGift_38 rfl ?_
    refine wp_iload_1 dX7_leastGift_40 ?_
    refine wp_iadd dX7_leastGift_41 ?_
    refine wp_rload_0 dX7_leastGift_42 ?_
    refine wp_getR (t := 122) fX7_13 dX7_leastGift_43 kd_120 rfl (rf_120_1) ?_
    refine wp_bipush (v := 27) dX7_leastGift_46 rfl ?_
    refine wp_iload_1 dX7_leastGift_48 ?_
    refine wp_iadd dX7_leastGift_49 ?_
    refine wp_aldF (j := (27 + w)) dX7_leastGift_50 ar_122 (nI_add _ _) (by omega) ?_
    refine wp_iload_3 dX7_leastGift_51 ?_
    refine wp_isub dX7_leastGift_52 ?_
    refine wp_callS_1 kX7_55 dX7_leastGift_53 (c_X7_bound ?_) ⟨Nat.le_of_ble_eq_true rfl, Nat.le_of_ble_eq_true rfl, Nat.le_of_ble_eq_true rfl⟩ (Nat.le_of_ble_eq_true rfl)
    refine wp_astF (j := (27 + w)) dX7_leastGift_56 ar_122 (nI_add _ _) (by omega) ?_
    refine wp_rload_0 dX7_leastGift_57 ?_
    refine wp_rload_0 dX7_leastGift_58 ?_
    refine wp_callV_0 kX7_147 dX7_leastGift_59 kd_120 rfl (c_X7_until (M := rI M 122 _) (by rw [rI_ne _ _ (by decide)]; exact yy_pos hy y0 y9) ?_) ⟨Nat.le_of_ble_eq_true rfl, Nat.le_of_ble_eq_true rfl, Nat.le_of_ble_eq_true rfl⟩ (Nat.le_of_ble_eq_true rfl)
    rw [rI_ne _ _ (by decide), utl_N hy hw3 y0 y9 (by omega)]
    refine wp_callV_1 kX7_187 dX7_leastGift_62 kd_120 rfl (c_X7_go (M := M) (g := g) (m := (yy - ww % yy)) (h := upd (lyF (M.1 121) h) (27 + w) (asQ (lyF (M.1 121) h (27 + w) - nI j))) (by rw [upd_o (by omega), lyF_in _ _ (by decide)]; exact hg) h6 (by rw [upd_o (by omega), lyF_in _ _ (by decide)]; exact yy_pos hy y0 y9) (by omega) ?_) ⟨Nat.le_of_ble_eq_true rfl, Nat.le_of_ble_eq_true rfl, Nat.le_of_ble_eq_true rfl⟩ (Nat.le_of_ble_eq_true rfl)
    rw [show goN g (yy - ww % yy) (upd (lyF (M.1 121) h) (27 + w) (asQ (lyF (M.1 121) h (27 + w) - nI j))) = lgM (M.1 121) g w (nI j) h by rw [lgM, hcl]]
    refine wp_rload_0 dX7_leastGift_65 ?_
    refine wp_getR (t := 122) fX7_13 dX7_leastGift_66 kd_120 rfl (rf_120_1) ?_
    refine wp_bipush (v := 22) dX7_leastGift_69 rfl ?_
    refine wp_iload_1 dX7_leastGift_71 ?_
    refine wp_iadd dX7_leastGift_72 ?_
    refine wp_aldF (j := (22 + w)) dX7_leastGift_73 ar_122 (nI_add _ _) (by omega) ?_
    refine wp_iload_2 dX7_leastGift_74 ?_
    refine wp_icmp_gt (tgt := 82) dX7_leastGift_75 rfl (fun c75 => ?_) (fun c75 => ?_)
    · refine wp_iinc_3 (v := nI (j + 1)) dX7_leastGift_82 (nI_inc _) (Nat.le_of_ble_eq_true rfl) rfl ?_
      refine wp_goto (tgt := 24) dX7_leastGift_85 rfl ?_
      rw [if_pos c75] at hQ
      exact ih (j + 1) _ (by omega) hQ
    · refine wp_iload_3 dX7_leastGift_78 ?_
      refine wp_iload_3 dX7_leastGift_79 ?_
      refine wp_imul dX7_leastGift_80 ?_
      refine wp_iret dX7_leastGift_81 rfl rfl ?_
      rw [if_neg c75] at hQ
      exact hQ
set_option maxRecDepth 100000 in
set_option maxHeartbeats 4000000 in
theorem c_X7_leastGift {κ : KX} {M : MM} {Q : Option Value → va_W → Prop} {h : Nat → Int32} {g yy ww : Nat} {x hh : Int32} (hg : M.1 121 0 = nI g) (h6 : g ≤ 6) (hy : M.1 121 1 = nI yy) (y0 : 0 < yy) (y9 : yy ≤ 99) (hw3 : M.1 121 3 = nI ww) (w9 : ww ≤ 10000) (hQ : Q (some (.int (tLg (M.1 121) h g x hh).2)) (wM κ (rI M 122 (tLg (M.1 121) h g x hh).1))) : CT κ (4, 0, 0) mX7_leastGift [rv κ 120, .int x, .int hh] (wM κ (rI M 122 h)) Q := by
  refine CT.of okX7_leastGift [some (rv κ 120), some (.int x), some (.int hh), none] (Nat.le_of_ble_eq_true rfl) rfl ?_
  refine wp_rload_0 dX7_leastGift_0 ?_
  refine wp_iload_1 dX7_leastGift_1 ?_
  refine wp_callV_1 kX7_83 dX7_leastGift_2 kd_120 rfl (c_X7_isWall (M := rI M 122 h) (by rw [rI_ne _ _ (by decide)]; exact hg) h6 ?_) ⟨Nat.le_of_ble_eq_true rfl, Nat.le_of_ble_eq_true rfl, Nat.le_of_ble_eq_true rfl⟩ (Nat.le_of_ble_eq_true rfl)
  refine wp_if_eq (tgt := 20) dX7_leastGift_5 rfl (fun c5 => ?_) (fun c5 => ?_)
  · refine wp_iconst (v := (-1)) dX7_leastGift_20 rfl ?_
    refine wp_iret dX7_leastGift_21 rfl rfl ?_
    first
      | (rw [tLg, if_pos c5] at hQ; exact hQ)
      | (rw [if_pos c17] at hQ; exact hQ)
  · obtain ⟨w, hw, rfl⟩ := upto_of c5 (by omega)
    rw [tLg, if_neg c5, cl_nI (by omega)] at hQ
    refine wp_iload_2 dX7_leastGift_8 ?_
    refine wp_i2l dX7_leastGift_9 ?_
    refine wp_lconst (v := 0) dX7_leastGift_10 rfl ?_
    refine wp_ldc2 nX7_190 dX7_leastGift_11 ?_
    refine wp_callS_3 kX7_43 dX7_leastGift_14 (c_X7_in (lo := 0) (hi := 19) (by decide) (by decide) ?_) ⟨Nat.le_of_ble_eq_true rfl, Nat.le_of_ble_eq_true rfl, Nat.le_of_ble_eq_true rfl⟩ (Nat.le_of_ble_eq_true rfl)
    refine wp_if_ne (tgt := 22) dX7_leastGift_17 rfl (fun c17 => ?_) (fun c17 => ?_)
    · refine wp_iconst (v := 0) dX7_leastGift_22 rfl ?_
      refine wp_istore_3 dX7_leastGift_23 (Nat.le_of_ble_eq_true rfl) rfl ?_
      rw [if_neg c17] at hQ
      exact l_X7_leastGift hg h6 hy y0 y9 hw3 w9 (by omega) 21 0 h (by omega) hQ
    · refine wp_iconst (v := (-1)) dX7_leastGift_20 rfl ?_
      refine wp_iret dX7_leastGift_21 rfl rfl ?_
      first
        | (rw [tLg, if_pos c5] at hQ; exact hQ)
        | (rw [if_pos c17] at hQ; exact hQ)
def srT (f : Nat → Int32) (g : Nat) (x : Int32) (h : Nat → Int32) : Nat → (Nat → Int32) × Int32 × Int32
  | 0 => (h, -4, -4)
  | w + 1 => (lgK f g w x (srT f g x h w).1, if smF (lgK f g w x (srT f g x h w).1) 22 5 ≤ (srT f g x h w).2.2 then (srT f g x h w).2.1 else nI w, if smF (lgK f g w x (srT f g x h w).1) 22 5 ≤ (srT f g x h w).2.2 then (srT f g x h w).2.2 else smF (lgK f g w x (srT f g x h w).1) 22 5)
def tSr (f h : Nat → Int32) (g : Nat) (x wh : Int32) : (Nat → Int32) × Int32 := if wi x 1 9 = 0 then (h, -1) else if wi wh 0 1 = 0 then (h, -1) else ((srT f g x h (g - 1)).1, if ¬ wh = 0 then (srT f g x h (g - 1)).2.2 else (srT f g x h (g - 1)).2.1)
set_option maxRecDepth 100000 in
set_option maxHeartbeats 4000000 in
theorem l_X7_stir {κ : KX} {M : MM} {Q : Option Value → va_W → Prop} {h : Nat → Int32} {g yy ww : Nat} {x y : Int32} (hg : M.1 121 0 = nI g) (h6 : g ≤ 6) (hy : M.1 121 1 = nI yy) (y0 : 0 < yy) (y9 : yy ≤ 99) (hw3 : M.1 121 3 = nI ww) (w9 : ww ≤ 10000) (hx : WP κ (4, 0, 0) mX7_stir 126 [some (rv κ 120), some (.int x), some (.int y), some (.int (srT (M.1 121) g x h ((g - 1))).2.1), some (.int (srT (M.1 121) g x h ((g - 1))).2.2), some (.int (nI ((g - 1)))), none] [] (wM κ (rI M 122 (srT (M.1 121) g x h ((g - 1))).1)) (0, 0) Q) : ∀ n j, j + n = (g - 1) → WP κ (4, 0, 0) mX7_stir 31 [some (rv κ 120), some (.int x), some (.int y), some (.int (srT (M.1 121) g x h j).2.1), some (.int (srT (M.1 121) g x h j).2.2), some (.int (nI j)), none] [] (wM κ (rI M 122 (srT (M.1 121) g x h j).1)) (0, 0) Q := by
  intro n
  induction n with
  | zero =>
    intro j hn
    have hn : j = (g - 1) := hn
    refine wp_iload_5 dX7_stir_31 ?_
    refine wp_rload_0 dX7_stir_33 ?_
    refine wp_getR (t := 121) fX7_7 dX7_stir_34 kd_120 rfl (rf_120_0) ?_
    refine wp_iconst (v := 0) dX7_stir_37 rfl ?_
    refine wp_ald (j := 0) dX7_stir_38 ar_121 (rfl) (by omega) ?_
    rw [rI_ne _ _ (by decide), hg]
    refine wp_iconst (v := 1) dX7_stir_39 rfl ?_
    refine wp_isub dX7_stir_40 ?_
    refine wp_icmp_ge (tgt := 126) dX7_stir_41 rfl (fun c41 => ?_) (fun c41 => absurd (gm1_le (by omega) (by omega) (by omega)) c41)
    subst hn
    exact hx
  | succ n ih =>
    intro j hn
    have hmd := Nat.mod_lt ww y0
    have hcl : cl (utl (M.1 121)) = (yy - ww % yy) := by
      rw [utl_N hy hw3 y0 y9 (by omega)]
      exact cl_nI (by omega)
    refine wp_iload_5 dX7_stir_31 ?_
    refine wp_rload_0 dX7_stir_33 ?_
    refine wp_getR (t := 121) fX7_7 dX7_stir_34 kd_120 rfl (rf_120_0) ?_
    refine wp_iconst (v := 0) dX7_stir_37 rfl ?_
    refine wp_ald (j := 0) dX7_stir_38 ar_121 (rfl) (by omega) ?_
    rw [rI_ne _ _ (by decide), hg]
    refine wp_iconst (v := 1) dX7_stir_39 rfl ?_
    refine wp_isub dX7_stir_40 ?_
    refine wp_icmp_ge (tgt := 126) dX7_stir_41 rfl (fun c41 => absurd c41 (gm1_gt (by omega) (by omega))) (fun c41 => ?_)
    refine wp_rload_0 dX7_stir_44 ?_
    refine wp_callV_0 kX7_184 dX7_stir_45 kd_120 rfl (c_X7_layAside (M := M) ?_) ⟨Nat.le_of_ble_eq_true rfl, Nat.le_of_ble_eq_true rfl, Nat.le_of_ble_eq_true rfl⟩ (Nat.le_of_ble_eq_true rfl)
    refine wp_rload_0 dX7_stir_48 ?_
    refine wp_getR (t := 122) fX7_13 dX7_stir_49 kd_120 rfl (rf_120_1) ?_
    refine wp_bipush (v := 27) dX7_stir_52 rfl ?_
    refine wp_iload_5 dX7_stir_54 ?_
    refine wp_iadd dX7_stir_56 ?_
    refine wp_rload_0 dX7_stir_57 ?_
    refine wp_getR (t := 122) fX7_13 dX7_stir_58 kd_120 rfl (rf_120_1) ?_
    refine wp_bipush (v := 27) dX7_stir_61 rfl ?_
    refine wp_iload_5 dX7_stir_63 ?_
    refine wp_iadd dX7_stir_65 ?_
    refine wp_aldF (j := (27 + j)) dX7_stir_66 ar_122 (nI_add _ _) (by omega) ?_
    refine wp_iload_1 dX7_stir_67 ?_
    refine wp_iadd dX7_stir_68 ?_
    refine wp_callS_1 kX7_55 dX7_stir_69 (c_X7_bound ?_) ⟨Nat.le_of_ble_eq_true rfl, Nat.le_of_ble_eq_true rfl, Nat.le_of_ble_eq_true rfl⟩ (Nat.le_of_ble_eq_true rfl)
    refine wp_astF (j := (27 + j)) dX7_stir_72 ar_122 (nI_add _ _) (by omega) ?_
    refine wp_rload_0 dX7_stir_73 ?_
    refine wp_rload_0 dX7_stir_74 ?_
    refine wp_callV_0 kX7_147 dX7_stir_75 kd_120 rfl (c_X7_until (M := rI M 122 _) (by rw [rI_ne _ _ (by decide)]; exact yy_pos hy y0 y9) ?_) ⟨Nat.le_of_ble_eq_true rfl, Nat.le_of_ble_eq_true rfl, Nat.le_of_ble_eq_true rfl⟩ (Nat.le_of_ble_eq_true rfl)
    rw [rI_ne _ _ (by decide), utl_N hy hw3 y0 y9 (by omega)]
    refine wp_callV_1 kX7_187 dX7_stir_78 kd_120 rfl (c_X7_go (M := M) (g := g) (m := (yy - ww % yy)) (h := upd (lyF (M.1 121) (srT (M.1 121) g x h j).1) (27 + j) (asQ (lyF (M.1 121) (srT (M.1 121) g x h j).1 (27 + j) + x))) (by rw [upd_o (by omega), lyF_in _ _ (by decide)]; exact hg) h6 (by rw [upd_o (by omega), lyF_in _ _ (by decide)]; exact yy_pos hy y0 y9) (by omega) ?_) ⟨Nat.le_of_ble_eq_true rfl, Nat.le_of_ble_eq_true rfl, Nat.le_of_ble_eq_true rfl⟩ (Nat.le_of_ble_eq_true rfl)
    rw [show goN g (yy - ww % yy) (upd (lyF (M.1 121) (srT (M.1 121) g x h j).1) (27 + j) (asQ (lyF (M.1 121) (srT (M.1 121) g x h j).1 (27 + j) + x))) = (lgK (M.1 121) g j x (srT (M.1 121) g x h j).1) by rw [lgK, hcl]]
    refine wp_rload_0 dX7_stir_81 ?_
    refine wp_getR (t := 122) fX7_13 dX7_stir_82 kd_120 rfl (rf_120_1) ?_
    refine wp_callS_1 kX7_143 dX7_stir_85 (c_X7_coursesOf (k := 122) ar_122 ?_) ⟨Nat.le_of_ble_eq_true rfl, Nat.le_of_ble_eq_true rfl, Nat.le_of_ble_eq_true rfl⟩ (Nat.le_of_ble_eq_true rfl)
    refine wp_istore_6 dX7_stir_88 (Nat.le_of_ble_eq_true rfl) rfl ?_
    refine wp_iload_6 dX7_stir_90 ?_
    refine wp_iload_4 dX7_stir_92 ?_
    refine wp_icmp_le (tgt := 102) dX7_stir_94 rfl (fun c94 => ?_) (fun c94 => ?_)
    · refine wp_iload_3 dX7_stir_102 ?_
      refine wp_istore_3 dX7_stir_103 (Nat.le_of_ble_eq_true rfl) rfl ?_
      refine wp_iload_6 dX7_stir_104 ?_
      refine wp_iload_4 dX7_stir_106 ?_
      refine wp_icmp_le (tgt := 116) dX7_stir_108 rfl (fun c108 => ?_) (fun c108 => ?_)
      · refine wp_iload_4 dX7_stir_116 ?_
        refine wp_istore_4 dX7_stir_118 (Nat.le_of_ble_eq_true rfl) rfl ?_
        refine wp_iinc_5 (v := nI (j + 1)) dX7_stir_120 (nI_inc _) (Nat.le_of_ble_eq_true rfl) rfl ?_
        refine wp_goto (tgt := 31) dX7_stir_123 rfl ?_
        have hb := ih (j + 1) (by omega)
        refine wp_drop_6 ?_
        first
          | (rw [show srT (M.1 121) g x h (j + 1) = ((lgK (M.1 121) g j x (srT (M.1 121) g x h j).1), (srT (M.1 121) g x h j).2.1, (srT (M.1 121) g x h j).2.2) from by rw [srT, if_pos c94, if_pos c94]] at hb; exact hb)
          | (rw [show srT (M.1 121) g x h (j + 1) = ((lgK (M.1 121) g j x (srT (M.1 121) g x h j).1), nI j, smF (lgK (M.1 121) g j x (srT (M.1 121) g x h j).1) 22 5) from by rw [srT, if_neg c94, if_neg c94]] at hb; exact hb)
          | exact absurd c94 c108
          | exact absurd c108 c94
      · refine wp_iload_6 dX7_stir_111 ?_
        refine wp_goto (tgt := 118) dX7_stir_113 rfl ?_
        refine wp_istore_4 dX7_stir_118 (Nat.le_of_ble_eq_true rfl) rfl ?_
        refine wp_iinc_5 (v := nI (j + 1)) dX7_stir_120 (nI_inc _) (Nat.le_of_ble_eq_true rfl) rfl ?_
        refine wp_goto (tgt := 31) dX7_stir_123 rfl ?_
        have hb := ih (j + 1) (by omega)
        refine wp_drop_6 ?_
        first
          | (rw [show srT (M.1 121) g x h (j + 1) = ((lgK (M.1 121) g j x (srT (M.1 121) g x h j).1), (srT (M.1 121) g x h j).2.1, (srT (M.1 121) g x h j).2.2) from by rw [srT, if_pos c94, if_pos c94]] at hb; exact hb)
          | (rw [show srT (M.1 121) g x h (j + 1) = ((lgK (M.1 121) g j x (srT (M.1 121) g x h j).1), nI j, smF (lgK (M.1 121) g j x (srT (M.1 121) g x h j).1) 22 5) from by rw [srT, if_neg c94, if_neg c94]] at hb; exact hb)
          | exact absurd c94 c108
          | exact absurd c108 c94
    · refine wp_iload_5 dX7_stir_97 ?_
      refine wp_goto (tgt := 103) dX7_stir_99 rfl ?_
      refine wp_istore_3 dX7_stir_103 (Nat.le_of_ble_eq_true rfl) rfl ?_
      refine wp_iload_6 dX7_stir_104 ?_
      refine wp_iload_4 dX7_stir_106 ?_
      refine wp_icmp_le (tgt := 116) dX7_stir_108 rfl (fun c108 => ?_) (fun c108 => ?_)
      · refine wp_iload_4 dX7_stir_116 ?_
        refine wp_istore_4 dX7_stir_118 (Nat.le_of_ble_eq_true rfl) rfl ?_
        refine wp_iinc_5 (v := nI (j + 1)) dX7_stir_120 (nI_inc _) (Nat.le_of_ble_eq_true rfl) rfl ?_
        refine wp_goto (tgt := 31) dX7_stir_123 rfl ?_
        have hb := ih (j + 1) (by omega)
        refine wp_drop_6 ?_
        first
          | (rw [show srT (M.1 121) g x h (j + 1) = ((lgK (M.1 121) g j x (srT (M.1 121) g x h j).1), (srT (M.1 121) g x h j).2.1, (srT (M.1 121) g x h j).2.2) from by rw [srT, if_pos c94, if_pos c94]] at hb; exact hb)
          | (rw [show srT (M.1 121) g x h (j + 1) = ((lgK (M.1 121) g j x (srT (M.1 121) g x h j).1), nI j, smF (lgK (M.1 121) g j x (srT (M.1 121) g x h j).1) 22 5) from by rw [srT, if_neg c94, if_neg c94]] at hb; exact hb)
          | exact absurd c94 c108
          | exact absurd c108 c94
      · refine wp_iload_6 dX7_stir_111 ?_
        refine wp_goto (tgt := 118) dX7_stir_113 rfl ?_
        refine wp_istore_4 dX7_stir_118 (Nat.le_of_ble_eq_true rfl) rfl ?_
        refine wp_iinc_5 (v := nI (j + 1)) dX7_stir_120 (nI_inc _) (Nat.le_of_ble_eq_true rfl) rfl ?_
        refine wp_goto (tgt := 31) dX7_stir_123 rfl ?_
        have hb := ih (j + 1) (by omega)
        refine wp_drop_6 ?_
        first
          | (rw [show srT (M.1 121) g x h (j + 1) = ((lgK (M.1 121) g j x (srT (M.1 121) g x h j).1), (srT (M.1 121) g x h j).2.1, (srT (M.1 121) g x h j).2.2) from by rw [srT, if_pos c94, if_pos c94]] at hb; exact hb)
          | (rw [show srT (M.1 121) g x h (j + 1) = ((lgK (M.1 121) g j x (srT (M.1 121) g x h j).1), nI j, smF (lgK (M.1 121) g j x (srT (M.1 121) g x h j).1) 22 5) from by rw [srT, if_neg c94, if_neg c94]] at hb; exact hb)
          | exact absurd c94 c108
          | exact absurd c108 c94
set_option maxRecDepth 100000 in
set_option maxHeartbeats 4000000 in
theorem c_X7_stir {κ : KX} {M : MM} {Q : Option Value → va_W → Prop} {h : Nat → Int32} {g yy ww : Nat} {x wh : Int32} (hg : M.1 121 0 = nI g) (h6 : g ≤ 6) (hy : M.1 121 1 = nI yy) (y0 : 0 < yy) (y9 : yy ≤ 99) (hw3 : M.1 121 3 = nI ww) (w9 : ww ≤ 10000) (hQ : Q (some (.int (tSr (M.1 121) h g x wh).2)) (wM κ (rI M 122 (tSr (M.1 121) h g x wh).1))) : CT κ (4, 0, 0) mX7_stir [rv κ 120, .int x, .int wh] (wM κ (rI M 122 h)) Q := by
  refine CT.of okX7_stir [some (rv κ 120), some (.int x), some (.int wh), none, none, none, none] (Nat.le_of_ble_eq_true rfl) rfl ?_
  refine wp_iload_1 dX7_stir_0 ?_
  refine wp_i2l dX7_stir_1 ?_
  refine wp_lconst (v := 1) dX7_stir_2 rfl ?_
  refine wp_ldc2 nX7_72 dX7_stir_3 ?_
  refine wp_callS_3 kX7_43 dX7_stir_6 (c_X7_in (lo := 1) (hi := 9) (by decide) (by decide) ?_) ⟨Nat.le_of_ble_eq_true rfl, Nat.le_of_ble_eq_true rfl, Nat.le_of_ble_eq_true rfl⟩ (Nat.le_of_ble_eq_true rfl)
  refine wp_if_eq (tgt := 19) dX7_stir_9 rfl (fun c9 => ?_) (fun c9 => ?_)
  · refine wp_iconst (v := (-1)) dX7_stir_19 rfl ?_
    refine wp_iret dX7_stir_20 rfl rfl ?_
    first
      | (rw [tSr, if_pos c9] at hQ; exact hQ)
      | (rw [tSr, if_neg c9, if_pos c16] at hQ; exact hQ)
  · refine wp_iload_2 dX7_stir_12 ?_
    refine wp_callS_1 kX7_163 dX7_stir_13 (c_X7_isTwo ?_) ⟨Nat.le_of_ble_eq_true rfl, Nat.le_of_ble_eq_true rfl, Nat.le_of_ble_eq_true rfl⟩ (Nat.le_of_ble_eq_true rfl)
    refine wp_if_ne (tgt := 21) dX7_stir_16 rfl (fun c16 => ?_) (fun c16 => ?_)
    · refine wp_bipush (v := (-4)) dX7_stir_21 rfl ?_
      refine wp_istore_3 dX7_stir_23 (Nat.le_of_ble_eq_true rfl) rfl ?_
      refine wp_bipush (v := (-4)) dX7_stir_24 rfl ?_
      refine wp_istore_4 dX7_stir_26 (Nat.le_of_ble_eq_true rfl) rfl ?_
      refine wp_iconst (v := 0) dX7_stir_28 rfl ?_
      refine wp_istore_5 dX7_stir_29 (Nat.le_of_ble_eq_true rfl) rfl ?_
      refine l_X7_stir hg h6 hy y0 y9 hw3 w9 ?_ (g - 1) 0 (by omega)
      refine wp_iload_2 dX7_stir_126 ?_
      refine wp_if_ne (tgt := 134) dX7_stir_127 rfl (fun c127 => ?_) (fun c127 => ?_)
      · refine wp_iload_4 dX7_stir_134 ?_
        refine wp_iret dX7_stir_136 rfl rfl ?_
        first
          | (rw [tSr, if_neg c9, if_neg c16, if_pos c127] at hQ; exact hQ)
          | (rw [tSr, if_neg c9, if_neg c16, if_neg (fun q => q c127)] at hQ; exact hQ)
      · refine wp_iload_3 dX7_stir_130 ?_
        refine wp_goto (tgt := 136) dX7_stir_131 rfl ?_
        refine wp_iret dX7_stir_136 rfl rfl ?_
        first
          | (rw [tSr, if_neg c9, if_neg c16, if_pos c127] at hQ; exact hQ)
          | (rw [tSr, if_neg c9, if_neg c16, if_neg (fun q => q c127)] at hQ; exact hQ)
    · refine wp_iconst (v := (-1)) dX7_stir_19 rfl ?_
      refine wp_iret dX7_stir_20 rfl rfl ?_
      first
        | (rw [tSr, if_pos c9] at hQ; exact hQ)
        | (rw [tSr, if_neg c9, if_pos c16] at hQ; exact hQ)
def hlI (f : Nat → Int32) (p : Int32) : Nat → Int32
  | 0 => p
  | w + 1 => if f (22 + w) < 12 then hlI f p w else hlI f p w * (100 - f (22 + w)) / 100
def hlO (f : Nat → Int32) (g : Nat) : Nat → Int32
  | 0 => 1000000
  | j + 1 => hlI f (hlO f g j) (g - 1)
def tHd (f : Nat → Int32) (g : Nat) (x : Int32) : Int32 := if wi x 0 52 = 0 then -1 else hlO f g (cl x)
set_option maxRecDepth 100000 in
set_option maxHeartbeats 4000000 in
theorem l_X7_holds2 {κ : KX} {M : MM} {Q : Option Value → va_W → Prop} {g : Nat} {p x y : Int32} (hg : M.1 121 0 = nI g) (h6 : g ≤ 6) (hx : WP κ (1, 0, 0) mX7_holds 84 [some (rv κ 120), some (.int x), some (.int (hlI (M.1 121) p ((g - 1)))), some (.int y), some (.int (nI ((g - 1))))] [] (wM κ (M)) (0, 0) Q) : ∀ n j, j + n = (g - 1) → WP κ (1, 0, 0) mX7_holds 27 [some (rv κ 120), some (.int x), some (.int (hlI (M.1 121) p j)), some (.int y), some (.int (nI j))] [] (wM κ (M)) (0, 0) Q := by
  intro n
  induction n with
  | zero =>
    intro j hn
    have hn : j = (g - 1) := hn
    refine wp_iload_4 dX7_holds_27 ?_
    refine wp_rload_0 dX7_holds_29 ?_
    refine wp_getR (t := 121) fX7_7 dX7_holds_30 kd_120 rfl (rf_120_0) ?_
    refine wp_iconst (v := 0) dX7_holds_33 rfl ?_
    refine wp_ald (j := 0) dX7_holds_34 ar_121 (rfl) (by omega) ?_
    rw [hg]
    refine wp_iconst (v := 1) dX7_holds_35 rfl ?_
    refine wp_isub dX7_holds_36 ?_
    refine wp_icmp_ge (tgt := 84) dX7_holds_37 rfl (fun c37 => ?_) (fun c37 => absurd (gm1_le (by omega) (by omega) (by omega)) c37)
    subst hn
    exact hx
  | succ n ih =>
    intro j hn
    refine wp_iload_4 dX7_holds_27 ?_
    refine wp_rload_0 dX7_holds_29 ?_
    refine wp_getR (t := 121) fX7_7 dX7_holds_30 kd_120 rfl (rf_120_0) ?_
    refine wp_iconst (v := 0) dX7_holds_33 rfl ?_
    refine wp_ald (j := 0) dX7_holds_34 ar_121 (rfl) (by omega) ?_
    rw [hg]
    refine wp_iconst (v := 1) dX7_holds_35 rfl ?_
    refine wp_isub dX7_holds_36 ?_
    refine wp_icmp_ge (tgt := 84) dX7_holds_37 rfl (fun c37 => absurd c37 (gm1_gt (by omega) (by omega))) (fun c37 => ?_)
    refine wp_rload_0 dX7_holds_40 ?_
    refine wp_getR (t := 121) fX7_7 dX7_holds_41 kd_120 rfl (rf_120_0) ?_
    refine wp_bipush (v := 22) dX7_holds_44 rfl ?_
    refine wp_iload_4 dX7_holds_46 ?_
    refine wp_iadd dX7_holds_48 ?_
    refine wp_ald (j := (22 + j)) dX7_holds_49 ar_121 (nI_add _ _) (by omega) ?_
    refine wp_bipush (v := 12) dX7_holds_50 rfl ?_
    refine wp_icmp_lt (tgt := 76) dX7_holds_52 rfl (fun c52 => ?_) (fun c52 => ?_)
    · refine wp_iload_2 dX7_holds_76 ?_
      refine wp_istore_2 dX7_holds_77 (Nat.le_of_ble_eq_true rfl) rfl ?_
      refine wp_iinc_4 (v := nI (j + 1)) dX7_holds_78 (nI_inc _) (Nat.le_of_ble_eq_true rfl) rfl ?_
      refine wp_goto (tgt := 27) dX7_holds_81 rfl ?_
      have hb := ih (j + 1) (by omega)
      first
        | (rw [show hlI (M.1 121) p (j + 1) = hlI (M.1 121) p j from if_pos c52] at hb; exact hb)
        | (rw [show hlI (M.1 121) p (j + 1) = hlI (M.1 121) p j * (100 - M.1 121 (22 + j)) / 100 from if_neg c52] at hb; exact hb)
    · refine wp_iload_2 dX7_holds_55 ?_
      refine wp_bipush (v := 100) dX7_holds_56 rfl ?_
      refine wp_rload_0 dX7_holds_58 ?_
      refine wp_getR (t := 121) fX7_7 dX7_holds_59 kd_120 rfl (rf_120_0) ?_
      refine wp_bipush (v := 22) dX7_holds_62 rfl ?_
      refine wp_iload_4 dX7_holds_64 ?_
      refine wp_iadd dX7_holds_66 ?_
      refine wp_ald (j := (22 + j)) dX7_holds_67 ar_121 (nI_add _ _) (by omega) ?_
      refine wp_isub dX7_holds_68 ?_
      refine wp_imul dX7_holds_69 ?_
      refine wp_bipush (v := 100) dX7_holds_70 rfl ?_
      refine wp_idiv dX7_holds_72 (by decide) ?_
      refine wp_goto (tgt := 77) dX7_holds_73 rfl ?_
      refine wp_istore_2 dX7_holds_77 (Nat.le_of_ble_eq_true rfl) rfl ?_
      refine wp_iinc_4 (v := nI (j + 1)) dX7_holds_78 (nI_inc _) (Nat.le_of_ble_eq_true rfl) rfl ?_
      refine wp_goto (tgt := 27) dX7_holds_81 rfl ?_
      have hb := ih (j + 1) (by omega)
      first
        | (rw [show hlI (M.1 121) p (j + 1) = hlI (M.1 121) p j from if_pos c52] at hb; exact hb)
        | (rw [show hlI (M.1 121) p (j + 1) = hlI (M.1 121) p j * (100 - M.1 121 (22 + j)) / 100 from if_neg c52] at hb; exact hb)
set_option maxRecDepth 100000 in
set_option maxHeartbeats 4000000 in
theorem l_X7_holds {κ : KX} {M : MM} {Q : Option Value → va_W → Prop} {g m : Nat} (hg : M.1 121 0 = nI g) (h6 : g ≤ 6) (hm : m ≤ 52) (hx : WP κ (1, 0, 0) mX7_holds 90 [some (rv κ 120), some (.int (nI m)), some (.int (hlO (M.1 121) g m)), some (.int (nI m)), none] [] (wM κ (M)) (0, 0) Q) : ∀ n j, j + n = m → WP κ (1, 0, 0) mX7_holds 19 [some (rv κ 120), some (.int (nI m)), some (.int (hlO (M.1 121) g j)), some (.int (nI j)), none] [] (wM κ (M)) (0, 0) Q := by
  intro n
  induction n with
  | zero =>
    intro j hn
    have hn : j = m := hn
    refine wp_iload_3 dX7_holds_19 ?_
    refine wp_iload_1 dX7_holds_20 ?_
    refine wp_icmp_ge (tgt := 90) dX7_holds_21 rfl (fun c21 => ?_) (fun c21 => absurd (nI_le (by omega) (by omega)) c21)
    subst hn
    exact hx
  | succ n ih =>
    intro j hn
    refine wp_iload_3 dX7_holds_19 ?_
    refine wp_iload_1 dX7_holds_20 ?_
    refine wp_icmp_ge (tgt := 90) dX7_holds_21 rfl (fun c21 => absurd c21 (nI_ge (by omega) (by omega))) (fun c21 => ?_)
    refine wp_iconst (v := 0) dX7_holds_24 rfl ?_
    refine wp_istore_4 dX7_holds_25 (Nat.le_of_ble_eq_true rfl) rfl ?_
    refine l_X7_holds2 hg h6 ?_ (g - 1) 0 (by omega)
    refine wp_iinc_3 (v := nI (j + 1)) dX7_holds_84 (nI_inc _) (Nat.le_of_ble_eq_true rfl) rfl ?_
    refine wp_goto (tgt := 19) dX7_holds_87 rfl ?_
    refine wp_drop_4 ?_
    exact ih (j + 1) (by omega)
set_option maxRecDepth 100000 in
set_option maxHeartbeats 4000000 in
theorem c_X7_holds {κ : KX} {M : MM} {Q : Option Value → va_W → Prop} {g : Nat} {x : Int32} (hg : M.1 121 0 = nI g) (h6 : g ≤ 6) (hQ : Q (some (.int (tHd (M.1 121) g x))) (wM κ (M))) : CT κ (1, 0, 0) mX7_holds [rv κ 120, .int x] (wM κ M) Q := by
  refine CT.of okX7_holds [some (rv κ 120), some (.int x), none, none, none] (Nat.le_of_ble_eq_true rfl) rfl ?_
  refine wp_iload_1 dX7_holds_0 ?_
  refine wp_i2l dX7_holds_1 ?_
  refine wp_lconst (v := 0) dX7_holds_2 rfl ?_
  refine wp_ldc2 nX7_94 dX7_holds_3 ?_
  refine wp_callS_3 kX7_43 dX7_holds_6 (c_X7_in (lo := 0) (hi := 52) (by decide) (by decide) ?_) ⟨Nat.le_of_ble_eq_true rfl, Nat.le_of_ble_eq_true rfl, Nat.le_of_ble_eq_true rfl⟩ (Nat.le_of_ble_eq_true rfl)
  refine wp_if_ne (tgt := 14) dX7_holds_9 rfl (fun c9 => ?_) (fun c9 => ?_)
  · obtain ⟨m, hm1, hm2, rfl⟩ := rng_of (a := 0) (b := 52) c9 (by decide) (by decide)
    rw [tHd, if_neg c9, cl_nI (by omega)] at hQ
    refine wp_ldc nX7_192 dX7_holds_14 ?_
    refine wp_istore_2 dX7_holds_16 (Nat.le_of_ble_eq_true rfl) rfl ?_
    refine wp_iconst (v := 0) dX7_holds_17 rfl ?_
    refine wp_istore_3 dX7_holds_18 (Nat.le_of_ble_eq_true rfl) rfl ?_
    refine l_X7_holds hg h6 hm2 ?_ m 0 (by omega)
    refine wp_iload_2 dX7_holds_90 ?_
    refine wp_iret dX7_holds_91 rfl rfl ?_
    exact hQ
  · refine wp_iconst (v := (-1)) dX7_holds_12 rfl ?_
    refine wp_iret dX7_holds_13 rfl rfl ?_
    rw [tHd, if_pos c9] at hQ
    exact hQ
set_option maxRecDepth 100000 in
set_option maxHeartbeats 4000000 in
theorem c_X7_image {κ : KX} {M : MM} {Q : Option Value → va_W → Prop} {h : Nat → Int32}  (hQ : Q (some (.int 1)) (wM κ (sI (rI M 124 (cpD (M.1 121) h 0 0 223)) 120 4 1))) : CT κ (1, 0, 0) mX7_image [rv κ 120] (wM κ (rI M 124 h)) Q := by
  refine CT.of okX7_image [some (rv κ 120)] (Nat.le_of_ble_eq_true rfl) rfl ?_
  refine wp_rload_0 dX7_image_0 ?_
  refine wp_getR (t := 121) fX7_7 dX7_image_1 kd_120 rfl (rf_120_0) ?_
  refine wp_iconst (v := 0) dX7_image_4 rfl ?_
  refine wp_rload_0 dX7_image_5 ?_
  refine wp_getR (t := 124) fX7_19 dX7_image_6 kd_120 rfl (rf_120_3) ?_
  refine wp_iconst (v := 0) dX7_image_9 rfl ?_
  refine wp_sipush (v := 223) dX7_image_10 rfl ?_
  refine wp_callS_5 kX7_139 dX7_image_13 (c_X7_copiesD (k := 124) (q := 121) (a := 0) (b := 0) (m := 223) ar_124 ar_121 (by decide) (by decide) (by decide) ?_) ⟨Nat.le_of_ble_eq_true rfl, Nat.le_of_ble_eq_true rfl, Nat.le_of_ble_eq_true rfl⟩ (Nat.le_of_ble_eq_true rfl)
  refine wp_rload_0 dX7_image_16 ?_
  refine wp_iconst (v := 1) dX7_image_17 rfl ?_
  refine wp_putZ fX7_200 dX7_image_18 kd_120 rfl rfl rfl rfl ?_
  refine wp_iconst (v := 1) dX7_image_21 rfl ?_
  refine wp_iret dX7_image_22 rfl rfl ?_
  exact hQ
def tRs (M : MM) (f : Nat → Int32) : (Nat → Int32) × Int32 := if ¬ M.1 120 4 = 0 then (cpD (M.1 124) f 0 0 223, 1) else (f, -4)
set_option maxRecDepth 100000 in
set_option maxHeartbeats 4000000 in
theorem c_X7_restore {κ : KX} {M : MM} {Q : Option Value → va_W → Prop} {f : Nat → Int32}  (hQ : Q (some (.int (tRs M f).2)) (wM κ (rI M 121 (tRs M f).1))) : CT κ (1, 0, 0) mX7_restore [rv κ 120] (wM κ (rI M 121 f)) Q := by
  refine CT.of okX7_restore [some (rv κ 120)] (Nat.le_of_ble_eq_true rfl) rfl ?_
  refine wp_rload_0 dX7_restore_0 ?_
  refine wp_getI fX7_200 dX7_restore_1 kd_120 rfl ?_
  rw [rI_ne _ _ (by decide)]
  refine wp_if_ne (tgt := 10) dX7_restore_4 rfl (fun c4 => ?_) (fun c4 => ?_)
  · refine wp_rload_0 dX7_restore_10 ?_
    refine wp_getR (t := 124) fX7_19 dX7_restore_11 kd_120 rfl (rf_120_3) ?_
    refine wp_iconst (v := 0) dX7_restore_14 rfl ?_
    refine wp_rload_0 dX7_restore_15 ?_
    refine wp_getR (t := 121) fX7_7 dX7_restore_16 kd_120 rfl (rf_120_0) ?_
    refine wp_iconst (v := 0) dX7_restore_19 rfl ?_
    refine wp_sipush (v := 223) dX7_restore_20 rfl ?_
    refine wp_callS_5 kX7_139 dX7_restore_23 (c_X7_copiesD (k := 121) (q := 124) (a := 0) (b := 0) (m := 223) ar_121 ar_124 (by decide) (by decide) (by decide) ?_) ⟨Nat.le_of_ble_eq_true rfl, Nat.le_of_ble_eq_true rfl, Nat.le_of_ble_eq_true rfl⟩ (Nat.le_of_ble_eq_true rfl)
    refine wp_iconst (v := 1) dX7_restore_26 rfl ?_
    refine wp_iret dX7_restore_27 rfl rfl ?_
    first
      | (rw [tRs, if_pos c4] at hQ; exact hQ)
      | (rw [tRs, if_neg (fun q => q c4)] at hQ; exact hQ)
  · refine wp_bipush (v := (-4)) dX7_restore_7 rfl ?_
    refine wp_iret dX7_restore_9 rfl rfl ?_
    first
      | (rw [tRs, if_pos c4] at hQ; exact hQ)
      | (rw [tRs, if_neg (fun q => q c4)] at hQ; exact hQ)
