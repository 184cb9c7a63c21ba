/-! what may be undone, images, streets laid out -/
theorem nI_rem8 (a : Nat) (h : a < 1000) : nI a - nI a / 8 * 8 = nI (a % 8) := pk_rem (d := 8) (by omega) (by decide) (by decide)
def stp (o u : Nat) : Nat := 11 + 5 * ((o + u) % 8)
theorem sg_stp (o u : Nat) : Sg (stp o u) := sg_st (Nat.mod_lt _ (by decide))
theorem rf_10 (j : Nat) : rf 10 j = 11 + 5 * j := by
  show 10 + 1 + 5 * j = _
  omega
theorem rf_60 (j : Nat) : rf 60 j = 61 + 5 * j := by
  show 60 + 1 + 5 * j = _
  omega
theorem bec_fr (M : MM) (k q : Nat) {a : Nat} (h : a < k ∨ k + 4 < a) : (bec M k q).1 a = M.1 a := by
  have h0 : a ≠ k := by omega
  have h1 : a ≠ k + 1 := by omega
  have h2 : a ≠ k + 2 := by omega
  have h3 : a ≠ k + 3 := by omega
  have h4 : a ≠ k + 4 := by omega
  simp [bec, rI, sI, h0, h1, h2, h3, h4]
/-- a step is remembered -/
def adS (o u : Nat) (M : MM) : MM := if u < 8 then sI (bec M (stp o u) 4) 9 2 (nI u + 1) else sI (bec M (stp o u) 4) 9 1 (nI ((o + 1) % 8))
set_option maxRecDepth 100000 in
set_option maxHeartbeats 4000000 in
theorem c_X1_add {κ : KX} {M : MM} {Q : Option Value → va_W → Prop} {o u : Nat} (ho : M.1 9 1 = nI o) (hu : M.1 9 2 = nI u) (h8 : o < 8) (hu8 : u ≤ 8) (hQ : Q (none) (wM κ (adS o u M))) : CT κ (2, 0, 0) mX1_add [rv κ 9, rv κ 4] (wM κ M) Q := by
  refine CT.of okX1_add [some (rv κ 9), some (rv κ 4)] (Nat.le_of_ble_eq_true rfl) rfl ?_
  refine wp_rload_0 dX1_add_0 ?_
  refine wp_getR (t := 10) fX1_11 dX1_add_1 kd_9 rfl (rf_9_0) ?_
  refine wp_rload_0 dX1_add_4 ?_
  refine wp_getI fX1_17 dX1_add_5 kd_9 rfl ?_
  rw [ho]
  refine wp_rload_0 dX1_add_8 ?_
  refine wp_getI fX1_21 dX1_add_9 kd_9 rfl ?_
  rw [hu]
  refine wp_iadd dX1_add_12 ?_
  refine wp_bipush (v := 8) dX1_add_13 rfl ?_
  refine wp_irem dX1_add_15 (by decide) ?_
  refine wp_aald (j := ((o + u) % 8)) (t := (stp o u)) dX1_add_16 (Or.inl kd_10) ((congrArg (fun z => z - z / 8 * 8) (nI_add o u)).trans (nI_rem8 (o + u) (by omega))) (by rw [ln_10]; omega) (rf_10 _) ?_
  refine wp_rload_1 dX1_add_17 ?_
  refine wp_callV_1 kX1_25 dX1_add_18 (sg_stp o u).1 rfl (c_X3_become (sg_stp o u) sg_4 ?_) ⟨Nat.le_of_ble_eq_true rfl, Nat.le_of_ble_eq_true rfl, Nat.le_of_ble_eq_true rfl⟩ (Nat.le_of_ble_eq_true rfl)
  have hb : (bec M (stp o u) 4).1 9 = M.1 9 := bec_fr M _ _ (by unfold stp; omega)
  refine wp_rload_0 dX1_add_21 ?_
  refine wp_getI fX1_21 dX1_add_22 kd_9 rfl ?_
  rw [hb, hu]
  refine wp_bipush (v := 8) dX1_add_25 rfl ?_
  refine wp_icmp_ge (tgt := 43) dX1_add_27 rfl (fun c27 => ?_) (fun c27 => ?_)
  · refine wp_rload_0 dX1_add_43 ?_
    refine wp_rload_0 dX1_add_44 ?_
    refine wp_getI fX1_17 dX1_add_45 kd_9 rfl ?_
    rw [hb, ho]
    refine wp_iconst (v := 1) dX1_add_48 rfl ?_
    refine wp_iadd dX1_add_49 ?_
    refine wp_bipush (v := 8) dX1_add_50 rfl ?_
    rw [show nI o + 1 = nI (o + 1) from nI_1 o]
    refine wp_irem dX1_add_52 (by decide) ?_
    rw [nI_rem8 (o + 1) (by omega)]
    refine wp_putI fX1_17 dX1_add_53 kd_9 rfl rfl ?_
    refine wp_vret dX1_add_56 rfl rfl ?_
    refine Qv hQ ?_
    rcases Nat.lt_or_ge u 8 with zz | zz
    · rw [adS, if_pos zz]
      try exact absurd c27 (nI_ge (b := 8) zz (by decide))
    · rw [adS, if_neg (Nat.not_lt.mpr zz)]
      try exact absurd (nI_le (a := 8) zz (by omega)) c27
  · refine wp_rload_0 dX1_add_30 ?_
    refine wp_dup_rv dX1_add_31 ?_
    refine wp_getI fX1_21 dX1_add_32 kd_9 rfl ?_
    rw [hb, hu]
    refine wp_iconst (v := 1) dX1_add_35 rfl ?_
    refine wp_iadd dX1_add_36 ?_
    refine wp_putI fX1_21 dX1_add_37 kd_9 rfl rfl ?_
    refine wp_goto (tgt := 56) dX1_add_40 rfl ?_
    refine wp_vret dX1_add_56 rfl rfl ?_
    refine Qv hQ ?_
    rcases Nat.lt_or_ge u 8 with zz | zz
    · rw [adS, if_pos zz]
      try exact absurd c27 (nI_ge (b := 8) zz (by decide))
    · rw [adS, if_neg (Nat.not_lt.mpr zz)]
      try exact absurd (nI_le (a := 8) zz (by omega)) c27
/-- a step is given back -/
def gvS (o u : Nat) (M : MM) : MM := bec (sI M 9 2 (nI u)) 4 (stp o u)
set_option maxRecDepth 100000 in
set_option maxHeartbeats 4000000 in
theorem c_X1_giveBack {κ : KX} {M : MM} {Q : Option Value → va_W → Prop} {o u : Nat} (ho : M.1 9 1 = nI o) (hu : M.1 9 2 = nI (u + 1)) (h8 : o < 8) (hu8 : u < 8) (hQ : Q (some (.int (nI u))) (wM κ (gvS o u M))) : CT κ (2, 0, 0) mX1_giveBack [rv κ 9, rv κ 4] (wM κ M) Q := by
  refine CT.of okX1_giveBack [some (rv κ 9), some (rv κ 4)] (Nat.le_of_ble_eq_true rfl) rfl ?_
  refine wp_rload_0 dX1_giveBack_0 ?_
  refine wp_dup_rv dX1_giveBack_1 ?_
  refine wp_getI fX1_21 dX1_giveBack_2 kd_9 rfl ?_
  rw [hu]
  refine wp_iconst (v := 1) dX1_giveBack_5 rfl ?_
  refine wp_isub dX1_giveBack_6 ?_
  rw [nI_pred u]
  refine wp_putI fX1_21 dX1_giveBack_7 kd_9 rfl rfl ?_
  refine wp_rload_1 dX1_giveBack_10 ?_
  refine wp_rload_0 dX1_giveBack_11 ?_
  refine wp_getR (t := 10) fX1_11 dX1_giveBack_12 kd_9 rfl (rf_9_0) ?_
  refine wp_rload_0 dX1_giveBack_15 ?_
  refine wp_getI fX1_17 dX1_giveBack_16 kd_9 rfl ?_
  rw [show (sI M 9 2 (nI u)).1 9 1 = nI o from ho]
  refine wp_rload_0 dX1_giveBack_19 ?_
  refine wp_getI fX1_21 dX1_giveBack_20 kd_9 rfl ?_
  rw [show (sI M 9 2 (nI u)).1 9 2 = nI u from sI_same _ _ _ _]
  refine wp_iadd dX1_giveBack_23 ?_
  refine wp_bipush (v := 8) dX1_giveBack_24 rfl ?_
  refine wp_irem dX1_giveBack_26 (by decide) ?_
  refine wp_aald (j := ((o + u) % 8)) (t := (stp o u)) dX1_giveBack_27 (Or.inl kd_10) ((congrArg (fun z => z - z / 8 * 8) (nI_add o u)).trans (nI_rem8 (o + u) (by omega))) (by rw [ln_10]; omega) (rf_10 _) ?_
  refine wp_callV_1 kX1_25 dX1_giveBack_28 kd_4 rfl (c_X3_become sg_4 (sg_stp o u) ?_) ⟨Nat.le_of_ble_eq_true rfl, Nat.le_of_ble_eq_true rfl, Nat.le_of_ble_eq_true rfl⟩ (Nat.le_of_ble_eq_true rfl)
  refine wp_rload_0 dX1_giveBack_31 ?_
  refine wp_getI fX1_21 dX1_giveBack_32 kd_9 rfl ?_
  refine wp_iret dX1_giveBack_35 rfl rfl ?_
  refine Qe hQ ?_ rfl
  rw [bec_fr _ _ _ (by omega)]
  exact sI_same _ _ _ _
def rmb (o u : Nat) (M : MM) : MM := adS o u M
set_option maxRecDepth 100000 in
set_option maxHeartbeats 4000000 in
theorem c_X4_remember {κ : KX} {M : MM} {Q : Option Value → va_W → Prop} {o u : Nat} (ho : M.1 9 1 = nI o) (hu : M.1 9 2 = nI u) (h8 : o < 8) (hu8 : u ≤ 8) (hQ : Q (none) (wM κ (adS o u M))) : CT κ (3, 0, 0) mX4_remember [rv κ 1] (wM κ M) Q := by
  refine CT.of okX4_remember [some (rv κ 1)] (Nat.le_of_ble_eq_true rfl) rfl ?_
  refine wp_rload_0 dX4_remember_0 ?_
  refine wp_getR (t := 9) fX4_38 dX4_remember_1 kd_1 rfl (rf_1_6) ?_
  refine wp_rload_0 dX4_remember_4 ?_
  refine wp_getR (t := 4) fX4_31 dX4_remember_5 kd_1 rfl (rf_1_5) ?_
  refine wp_callV_1 kX4_55 dX4_remember_8 kd_9 rfl (c_X1_add ho hu h8 hu8 ?_) ⟨Nat.le_of_ble_eq_true rfl, Nat.le_of_ble_eq_true rfl, Nat.le_of_ble_eq_true rfl⟩ (Nat.le_of_ble_eq_true rfl)
  refine wp_vret dX4_remember_11 rfl rfl ?_
  exact hQ
def pcp59 (M : MM) : Nat → MM
  | 0 => M
  | j + 1 => bec (pcp59 M j) (61 + 5 * j) (11 + 5 * j)
set_option maxRecDepth 100000 in
set_option maxHeartbeats 4000000 in
theorem l_X1_become59 {κ : KX} {M : MM} {Q : Option Value → va_W → Prop}   (hx : WP κ (2, 0, 0) mX1_become 29 [some (rv κ 59), some (rv κ 9), some (.int (nI 8))] [] (wM κ (pcp59 M 8)) (0, 0) Q) : ∀ n j, j + n = 8 → WP κ (2, 0, 0) mX1_become 2 [some (rv κ 59), some (rv κ 9), some (.int (nI j))] [] (wM κ (pcp59 M j)) (0, 0) Q := by
  intro n
  induction n with
  | zero =>
    intro j hn
    have hn : j = 8 := hn
    refine wp_iload_2 dX1_become_2 ?_
    refine wp_bipush (v := 8) dX1_become_3 rfl ?_
    refine wp_icmp_ge (tgt := 29) dX1_become_5 rfl (fun c5 => ?_) (fun c5 => absurd (nI_le (a := 8) (by omega) (by omega)) c5)
    subst hn
    exact hx
  | succ n ih =>
    intro j hn
    refine wp_iload_2 dX1_become_2 ?_
    refine wp_bipush (v := 8) dX1_become_3 rfl ?_
    refine wp_icmp_ge (tgt := 29) dX1_become_5 rfl (fun c5 => absurd c5 (nI_ge (b := 8) (by omega) (by decide))) (fun c5 => ?_)
    refine wp_rload_0 dX1_become_8 ?_
    refine wp_getR (t := 60) fX1_11 dX1_become_9 kd_59 rfl (rf_59_0) ?_
    refine wp_iload_2 dX1_become_12 ?_
    refine wp_aald (j := j) (t := (61 + 5 * j)) dX1_become_13 (Or.inl kd_60) (rfl) (by rw [ln_60]; omega) (rf_60 _) ?_
    refine wp_rload_1 dX1_become_14 ?_
    refine wp_getR (t := 10) fX1_11 dX1_become_15 kd_9 rfl (rf_9_0) ?_
    refine wp_iload_2 dX1_become_18 ?_
    refine wp_aald (j := j) (t := (11 + 5 * j)) dX1_become_19 (Or.inl kd_10) (rfl) (by rw [ln_10]; omega) (rf_10 _) ?_
    refine wp_callV_1 kX1_25 dX1_become_20 (sg_kt (by omega)).1 rfl (c_X3_become (sg_kt (by omega)) (sg_st (by omega)) ?_) ⟨Nat.le_of_ble_eq_true rfl, Nat.le_of_ble_eq_true rfl, Nat.le_of_ble_eq_true rfl⟩ (Nat.le_of_ble_eq_true rfl)
    refine wp_iinc_2 (v := nI (j + 1)) dX1_become_23 (nI_inc _) (Nat.le_of_ble_eq_true rfl) rfl ?_
    refine wp_goto (tgt := 2) dX1_become_26 rfl ?_
    exact ih (j + 1) (by omega)
def pbc59 (M : MM) : MM := sI (sI (pcp59 M 8) 59 1 ((pcp59 M 8).1 9 1)) 59 2 ((sI (pcp59 M 8) 59 1 ((pcp59 M 8).1 9 1)).1 9 2)
set_option maxRecDepth 100000 in
set_option maxHeartbeats 4000000 in
theorem c_X1_become59 {κ : KX} {M : MM} {Q : Option Value → va_W → Prop}   (hQ : Q (none) (wM κ (pbc59 M))) : CT κ (2, 0, 0) mX1_become [rv κ 59, rv κ 9] (wM κ M) Q := by
  refine CT.of okX1_become [some (rv κ 59), some (rv κ 9), none] (Nat.le_of_ble_eq_true rfl) rfl ?_
  refine wp_iconst (v := 0) dX1_become_0 rfl ?_
  refine wp_istore_2 dX1_become_1 (Nat.le_of_ble_eq_true rfl) rfl ?_
  refine l_X1_become59 ?_ 8 0 (by omega)
  refine wp_rload_0 dX1_become_29 ?_
  refine wp_rload_1 dX1_become_30 ?_
  refine wp_getI fX1_17 dX1_become_31 kd_9 rfl ?_
  refine wp_putI fX1_17 dX1_become_34 kd_59 rfl rfl ?_
  refine wp_rload_0 dX1_become_37 ?_
  refine wp_rload_1 dX1_become_38 ?_
  refine wp_getI fX1_21 dX1_become_39 kd_9 rfl ?_
  refine wp_putI fX1_21 dX1_become_42 kd_59 rfl rfl ?_
  refine wp_vret dX1_become_45 rfl rfl ?_
  exact hQ
def sbc51 (M : MM) : MM :=
  let M1 := rI M 52 (va_cpy (M.1 2) (M.1 52) 0 0 6)
  let M2 := rI M1 53 (va_cpy (M1.1 3) (M1.1 53) 0 0 6)
  let M3 := sI M2 51 2 (M2.1 1 2)
  let M4 := sI M3 51 3 (M3.1 1 3)
  let M5 := sI M4 51 4 (M4.1 1 4)
  pbc59 (bec M5 54 4)
set_option maxRecDepth 100000 in
set_option maxHeartbeats 4000000 in
theorem c_X4_become51 {κ : KX} {M : MM} {Q : Option Value → va_W → Prop}   (hQ : Q (none) (wM κ (sbc51 M))) : CT κ (3, 0, 0) mX4_become [rv κ 51, rv κ 1] (wM κ M) Q := by
  refine CT.of okX4_become [some (rv κ 51), some (rv κ 1)] (Nat.le_of_ble_eq_true rfl) rfl ?_
  refine wp_rload_1 dX4_become_0 ?_
  refine wp_getR (t := 2) fX4_9 dX4_become_1 kd_1 rfl (rf_1_0) ?_
  refine wp_iconst (v := 0) dX4_become_4 rfl ?_
  refine wp_rload_0 dX4_become_5 ?_
  refine wp_getR (t := 52) fX4_9 dX4_become_6 kd_51 rfl (rf_51_0) ?_
  refine wp_iconst (v := 0) dX4_become_9 rfl ?_
  refine wp_bipush (v := 6) dX4_become_10 rfl ?_
  refine wp_copyi (a := 0) (b := 0) (z := 6) kX4_42 dX4_become_12 ar_2.1 ar_52.1 (rfl) (rfl) (rfl) (by rw [ar_2.2]; omega) (by rw [ar_52.2]; omega) (Nat.le_of_ble_eq_true rfl) (Nat.le_of_ble_eq_true rfl) ?_
  refine wp_rload_1 dX4_become_15 ?_
  refine wp_getR (t := 3) fX4_15 dX4_become_16 kd_1 rfl (rf_1_1) ?_
  refine wp_iconst (v := 0) dX4_become_19 rfl ?_
  refine wp_rload_0 dX4_become_20 ?_
  refine wp_getR (t := 53) fX4_15 dX4_become_21 kd_51 rfl (rf_51_1) ?_
  refine wp_iconst (v := 0) dX4_become_24 rfl ?_
  refine wp_bipush (v := 6) dX4_become_25 rfl ?_
  refine wp_copyi (a := 0) (b := 0) (z := 6) kX4_42 dX4_become_27 ar_3.1 ar_53.1 (rfl) (rfl) (rfl) (by rw [ar_3.2]; omega) (by rw [ar_53.2]; omega) (Nat.le_of_ble_eq_true rfl) (Nat.le_of_ble_eq_true rfl) ?_
  refine wp_rload_0 dX4_become_30 ?_
  refine wp_rload_1 dX4_become_31 ?_
  refine wp_getI fX4_18 dX4_become_32 kd_1 rfl ?_
  refine wp_putI fX4_18 dX4_become_35 kd_51 rfl rfl ?_
  refine wp_rload_0 dX4_become_38 ?_
  refine wp_rload_1 dX4_become_39 ?_
  refine wp_getI fX4_22 dX4_become_40 kd_1 rfl ?_
  refine wp_putI fX4_22 dX4_become_43 kd_51 rfl rfl ?_
  refine wp_rload_0 dX4_become_46 ?_
  refine wp_rload_1 dX4_become_47 ?_
  refine wp_getI fX4_25 dX4_become_48 kd_1 rfl ?_
  refine wp_putI fX4_25 dX4_become_51 kd_51 rfl rfl ?_
  refine wp_rload_0 dX4_become_54 ?_
  refine wp_getR (t := 54) fX4_31 dX4_become_55 kd_51 rfl (rf_51_5) ?_
  refine wp_rload_1 dX4_become_58 ?_
  refine wp_getR (t := 4) fX4_31 dX4_become_59 kd_1 rfl (rf_1_5) ?_
  refine wp_callV_1 kX4_48 dX4_become_62 kd_54 rfl (c_X3_become sg_54 sg_4 ?_) ⟨Nat.le_of_ble_eq_true rfl, Nat.le_of_ble_eq_true rfl, Nat.le_of_ble_eq_true rfl⟩ (Nat.le_of_ble_eq_true rfl)
  refine wp_rload_0 dX4_become_65 ?_
  refine wp_getR (t := 59) fX4_38 dX4_become_66 kd_51 rfl (rf_51_6) ?_
  refine wp_rload_1 dX4_become_69 ?_
  refine wp_getR (t := 9) fX4_38 dX4_become_70 kd_1 rfl (rf_1_6) ?_
  refine wp_callV_1 kX4_52 dX4_become_73 kd_59 rfl (c_X1_become59 ?_) ⟨Nat.le_of_ble_eq_true rfl, Nat.le_of_ble_eq_true rfl, Nat.le_of_ble_eq_true rfl⟩ (Nat.le_of_ble_eq_true rfl)
  refine wp_vret dX4_become_76 rfl rfl ?_
  exact hQ
def pcp9 (M : MM) : Nat → MM
  | 0 => M
  | j + 1 => bec (pcp9 M j) (11 + 5 * j) (61 + 5 * j)
set_option maxRecDepth 100000 in
set_option maxHeartbeats 4000000 in
theorem l_X1_become9 {κ : KX} {M : MM} {Q : Option Value → va_W → Prop}   (hx : WP κ (2, 0, 0) mX1_become 29 [some (rv κ 9), some (rv κ 59), some (.int (nI 8))] [] (wM κ (pcp9 M 8)) (0, 0) Q) : ∀ n j, j + n = 8 → WP κ (2, 0, 0) mX1_become 2 [some (rv κ 9), some (rv κ 59), some (.int (nI j))] [] (wM κ (pcp9 M j)) (0, 0) Q := by
  intro n
  induction n with
  | zero =>
    intro j hn
    have hn : j = 8 := hn
    refine wp_iload_2 dX1_become_2 ?_
    refine wp_bipush (v := 8) dX1_become_3 rfl ?_
    refine wp_icmp_ge (tgt := 29) dX1_become_5 rfl (fun c5 => ?_) (fun c5 => absurd (nI_le (a := 8) (by omega) (by omega)) c5)
    subst hn
    exact hx
  | succ n ih =>
    intro j hn
    refine wp_iload_2 dX1_become_2 ?_
    refine wp_bipush (v := 8) dX1_become_3 rfl ?_
    refine wp_icmp_ge (tgt := 29) dX1_become_5 rfl (fun c5 => absurd c5 (nI_ge (b := 8) (by omega) (by decide))) (fun c5 => ?_)
    refine wp_rload_0 dX1_become_8 ?_
    refine wp_getR (t := 10) fX1_11 dX1_become_9 kd_9 rfl (rf_9_0) ?_
    refine wp_iload_2 dX1_become_12 ?_
    refine wp_aald (j := j) (t := (11 + 5 * j)) dX1_become_13 (Or.inl kd_10) (rfl) (by rw [ln_10]; omega) (rf_10 _) ?_
    refine wp_rload_1 dX1_become_14 ?_
    refine wp_getR (t := 60) fX1_11 dX1_become_15 kd_59 rfl (rf_59_0) ?_
    refine wp_iload_2 dX1_become_18 ?_
    refine wp_aald (j := j) (t := (61 + 5 * j)) dX1_become_19 (Or.inl kd_60) (rfl) (by rw [ln_60]; omega) (rf_60 _) ?_
    refine wp_callV_1 kX1_25 dX1_become_20 (sg_st (by omega)).1 rfl (c_X3_become (sg_st (by omega)) (sg_kt (by omega)) ?_) ⟨Nat.le_of_ble_eq_true rfl, Nat.le_of_ble_eq_true rfl, Nat.le_of_ble_eq_true rfl⟩ (Nat.le_of_ble_eq_true rfl)
    refine wp_iinc_2 (v := nI (j + 1)) dX1_become_23 (nI_inc _) (Nat.le_of_ble_eq_true rfl) rfl ?_
    refine wp_goto (tgt := 2) dX1_become_26 rfl ?_
    exact ih (j + 1) (by omega)
def pbc9 (M : MM) : MM := sI (sI (pcp9 M 8) 9 1 ((pcp9 M 8).1 59 1)) 9 2 ((sI (pcp9 M 8) 9 1 ((pcp9 M 8).1 59 1)).1 59 2)
set_option maxRecDepth 100000 in
set_option maxHeartbeats 4000000 in
theorem c_X1_become9 {κ : KX} {M : MM} {Q : Option Value → va_W → Prop}   (hQ : Q (none) (wM κ (pbc9 M))) : CT κ (2, 0, 0) mX1_become [rv κ 9, rv κ 59] (wM κ M) Q := by
  refine CT.of okX1_become [some (rv κ 9), some (rv κ 59), none] (Nat.le_of_ble_eq_true rfl) rfl ?_
  refine wp_iconst (v := 0) dX1_become_0 rfl ?_
  refine wp_istore_2 dX1_become_1 (Nat.le_of_ble_eq_true rfl) rfl ?_
  refine l_X1_become9 ?_ 8 0 (by omega)
  refine wp_rload_0 dX1_become_29 ?_
  refine wp_rload_1 dX1_become_30 ?_
  refine wp_getI fX1_17 dX1_become_31 kd_59 rfl ?_
  refine wp_putI fX1_17 dX1_become_34 kd_9 rfl rfl ?_
  refine wp_rload_0 dX1_become_37 ?_
  refine wp_rload_1 dX1_become_38 ?_
  refine wp_getI fX1_21 dX1_become_39 kd_59 rfl ?_
  refine wp_putI fX1_21 dX1_become_42 kd_9 rfl rfl ?_
  refine wp_vret dX1_become_45 rfl rfl ?_
  exact hQ
def sbc1 (M : MM) : MM :=
  let M1 := rI M 2 (va_cpy (M.1 52) (M.1 2) 0 0 6)
  let M2 := rI M1 3 (va_cpy (M1.1 53) (M1.1 3) 0 0 6)
  let M3 := sI M2 1 2 (M2.1 51 2)
  let M4 := sI M3 1 3 (M3.1 51 3)
  let M5 := sI M4 1 4 (M4.1 51 4)
  pbc9 (bec M5 4 54)
set_option maxRecDepth 100000 in
set_option maxHeartbeats 4000000 in
theorem c_X4_become1 {κ : KX} {M : MM} {Q : Option Value → va_W → Prop}   (hQ : Q (none) (wM κ (sbc1 M))) : CT κ (3, 0, 0) mX4_become [rv κ 1, rv κ 51] (wM κ M) Q := by
  refine CT.of okX4_become [some (rv κ 1), some (rv κ 51)] (Nat.le_of_ble_eq_true rfl) rfl ?_
  refine wp_rload_1 dX4_become_0 ?_
  refine wp_getR (t := 52) fX4_9 dX4_become_1 kd_51 rfl (rf_51_0) ?_
  refine wp_iconst (v := 0) dX4_become_4 rfl ?_
  refine wp_rload_0 dX4_become_5 ?_
  refine wp_getR (t := 2) fX4_9 dX4_become_6 kd_1 rfl (rf_1_0) ?_
  refine wp_iconst (v := 0) dX4_become_9 rfl ?_
  refine wp_bipush (v := 6) dX4_become_10 rfl ?_
  refine wp_copyi (a := 0) (b := 0) (z := 6) kX4_42 dX4_become_12 ar_52.1 ar_2.1 (rfl) (rfl) (rfl) (by rw [ar_52.2]; omega) (by rw [ar_2.2]; omega) (Nat.le_of_ble_eq_true rfl) (Nat.le_of_ble_eq_true rfl) ?_
  refine wp_rload_1 dX4_become_15 ?_
  refine wp_getR (t := 53) fX4_15 dX4_become_16 kd_51 rfl (rf_51_1) ?_
  refine wp_iconst (v := 0) dX4_become_19 rfl ?_
  refine wp_rload_0 dX4_become_20 ?_
  refine wp_getR (t := 3) fX4_15 dX4_become_21 kd_1 rfl (rf_1_1) ?_
  refine wp_iconst (v := 0) dX4_become_24 rfl ?_
  refine wp_bipush (v := 6) dX4_become_25 rfl ?_
  refine wp_copyi (a := 0) (b := 0) (z := 6) kX4_42 dX4_become_27 ar_53.1 ar_3.1 (rfl) (rfl) (rfl) (by rw [ar_53.2]; omega) (by rw [ar_3.2]; omega) (Nat.le_of_ble_eq_true rfl) (Nat.le_of_ble_eq_true rfl) ?_
  refine wp_rload_0 dX4_become_30 ?_
  refine wp_rload_1 dX4_become_31 ?_
  refine wp_getI fX4_18 dX4_become_32 kd_51 rfl ?_
  refine wp_putI fX4_18 dX4_become_35 kd_1 rfl rfl ?_
  refine wp_rload_0 dX4_become_38 ?_
  refine wp_rload_1 dX4_become_39 ?_
  refine wp_getI fX4_22 dX4_become_40 kd_51 rfl ?_
  refine wp_putI fX4_22 dX4_become_43 kd_1 rfl rfl ?_
  refine wp_rload_0 dX4_become_46 ?_
  refine wp_rload_1 dX4_become_47 ?_
  refine wp_getI fX4_25 dX4_become_48 kd_51 rfl ?_
  refine wp_putI fX4_25 dX4_become_51 kd_1 rfl rfl ?_
  refine wp_rload_0 dX4_become_54 ?_
  refine wp_getR (t := 4) fX4_31 dX4_become_55 kd_1 rfl (rf_1_5) ?_
  refine wp_rload_1 dX4_become_58 ?_
  refine wp_getR (t := 54) fX4_31 dX4_become_59 kd_51 rfl (rf_51_5) ?_
  refine wp_callV_1 kX4_48 dX4_become_62 kd_4 rfl (c_X3_become sg_4 sg_54 ?_) ⟨Nat.le_of_ble_eq_true rfl, Nat.le_of_ble_eq_true rfl, Nat.le_of_ble_eq_true rfl⟩ (Nat.le_of_ble_eq_true rfl)
  refine wp_rload_0 dX4_become_65 ?_
  refine wp_getR (t := 9) fX4_38 dX4_become_66 kd_1 rfl (rf_1_6) ?_
  refine wp_rload_1 dX4_become_69 ?_
  refine wp_getR (t := 59) fX4_38 dX4_become_70 kd_51 rfl (rf_51_6) ?_
  refine wp_callV_1 kX4_52 dX4_become_73 kd_9 rfl (c_X1_become9 ?_) ⟨Nat.le_of_ble_eq_true rfl, Nat.le_of_ble_eq_true rfl, Nat.le_of_ble_eq_true rfl⟩ (Nat.le_of_ble_eq_true rfl)
  refine wp_vret dX4_become_76 rfl rfl ?_
  exact hQ
def ly0 (M : MM) : MM := sI (sI (sI M 1 2 0) 1 3 (M.1 106 6)) 4 4 0
def ly1 (M : MM) : Nat → MM
  | 0 => M
  | j + 1 => setl j (ly1 M j) ((ly1 M j).1 108 j) ((ly1 M j).1 109 j)
def ly2 (M : MM) : Nat → MM
  | 0 => M
  | j + 1 => sI (ly2 M j) 6 j ((ly2 M j).1 110 j)
theorem clr_fr (M : MM) (w : Nat) {k : Nat} (h5 : k ≠ 5) (h6 : k ≠ 6) (h7 : k ≠ 7) : (clr M w).1 k = M.1 k := by simp [clr, sI, h5, h6, h7]
theorem setl_hi (g : Nat) (M : MM) (kq no : Int32) {k : Nat} (hk : 9 < k) : (setl g M kq no).1 k = M.1 k := by
  have e1 : k ≠ 1 := by omega
  have e2 : k ≠ 2 := by omega
  have e3 : k ≠ 3 := by omega
  have e8 : k ≠ 8 := by omega
  have e9 : k ≠ 9 := by omega
  unfold setl
  split
  · simp [fgt, sI, e1, e2, e3, e8, e9]
  · simp only [fgt]
    simp only [sI, e9, if_false]
    rw [clr_fr _ _ (by omega) (by omega) (by omega)]
    simp [e1, e2, e3, e8]
theorem setl_g (g : Nat) (M : MM) (kq no : Int32) : (setl g M kq no).1 1 2 = nI (g + 1) := by
  rw [← nI_1 g]
  unfold setl
  split
  · simp [fgt, sI, upd]
  · simp [fgt, clr, sI, upd]
theorem ly1_hi (M : MM) {k : Nat} (hk : 9 < k) : ∀ j, (ly1 M j).1 k = M.1 k
  | 0 => rfl
  | j + 1 => by rw [ly1, setl_hi _ _ _ _ hk]; exact ly1_hi M hk j
theorem ly1_g (M : MM) (h0 : M.1 1 2 = 0) : ∀ j, (ly1 M j).1 1 2 = nI j
  | 0 => h0
  | j + 1 => by rw [ly1, setl_g]
theorem ly2_fr (M : MM) {k : Nat} (hk : k ≠ 6) : ∀ j, (ly2 M j).1 k = M.1 k
  | 0 => rfl
  | j + 1 => by rw [ly2]; simp [sI, hk, ly2_fr M hk j]
set_option maxRecDepth 100000 in
set_option maxHeartbeats 4000000 in
theorem l_X4_layOut1 {κ : KX} {M : MM} {Q : Option Value → va_W → Prop} {t : Nat} (ht : M.1 106 5 = nI t) (h6 : t ≤ 6) (h0 : M.1 1 2 = 0) (hx : WP κ (2, 0, 0) mX4_layOut 54 [some (rv κ 1), some (rv κ 106), some (.int (nI t))] [] (wM κ (ly1 M t)) (0, 0) Q) : ∀ n j, j + n = t → WP κ (2, 0, 0) mX4_layOut 23 [some (rv κ 1), some (rv κ 106), some (.int (nI j))] [] (wM κ (ly1 M j)) (0, 0) Q := by
  intro n
  induction n with
  | zero =>
    intro j hn
    have hn : j = t := hn
    refine wp_iload_2 dX4_layOut_23 ?_
    refine wp_rload_1 dX4_layOut_24 ?_
    refine wp_getI fX4_82 dX4_layOut_25 kd_106 rfl ?_
    rw [ly1_hi M (by decide), ht]
    refine wp_icmp_ge (tgt := 54) dX4_layOut_28 rfl (fun c28 => ?_) (fun c28 => absurd (nI_le (by omega) (by omega)) c28)
    subst hn
    exact hx
  | succ n ih =>
    intro j hn
    refine wp_iload_2 dX4_layOut_23 ?_
    refine wp_rload_1 dX4_layOut_24 ?_
    refine wp_getI fX4_82 dX4_layOut_25 kd_106 rfl ?_
    rw [ly1_hi M (by decide), ht]
    refine wp_icmp_ge (tgt := 54) dX4_layOut_28 rfl (fun c28 => absurd c28 (nI_ge (by omega) (by omega))) (fun c28 => ?_)
    refine wp_rload_0 dX4_layOut_31 ?_
    refine wp_rload_1 dX4_layOut_32 ?_
    refine wp_getR (t := 108) fX4_83 dX4_layOut_33 kd_106 rfl (rf_106_2) ?_
    refine wp_iload_2 dX4_layOut_36 ?_
    refine wp_ald (j := j) dX4_layOut_37 ar_108 (rfl) (by omega) ?_
    refine wp_rload_1 dX4_layOut_38 ?_
    refine wp_getR (t := 109) fX4_84 dX4_layOut_39 kd_106 rfl (rf_106_3) ?_
    refine wp_iload_2 dX4_layOut_42 ?_
    refine wp_ald (j := j) dX4_layOut_43 ar_109 (rfl) (by omega) ?_
    refine wp_callV_2 kX4_85 dX4_layOut_44 kd_1 rfl (c_X4_settle (g := j) (ly1_g M h0 j) (by omega) ?_) ⟨Nat.le_of_ble_eq_true rfl, Nat.le_of_ble_eq_true rfl, Nat.le_of_ble_eq_true rfl⟩ (Nat.le_of_ble_eq_true rfl)
    refine wp_pop_int dX4_layOut_47 ?_
    refine wp_iinc_2 (v := nI (j + 1)) dX4_layOut_48 (nI_inc _) (Nat.le_of_ble_eq_true rfl) rfl ?_
    refine wp_goto (tgt := 23) dX4_layOut_51 rfl ?_
    exact ih (j + 1) (by omega)
set_option maxRecDepth 100000 in
set_option maxHeartbeats 4000000 in
theorem l_X4_layOut2 {κ : KX} {M : MM} {Q : Option Value → va_W → Prop} {g : Nat} (hg : M.1 1 2 = nI g) (h6 : g ≤ 6) (hx : WP κ (2, 0, 0) mX4_layOut 85 [some (rv κ 1), some (rv κ 106), some (.int (nI ((g - 1))))] [] (wM κ (ly2 M ((g - 1)))) (0, 0) Q) : ∀ n j, j + n = (g - 1) → WP κ (2, 0, 0) mX4_layOut 56 [some (rv κ 1), some (rv κ 106), some (.int (nI j))] [] (wM κ (ly2 M j)) (0, 0) Q := by
  intro n
  induction n with
  | zero =>
    intro j hn
    have hn : j = (g - 1) := hn
    refine wp_iload_2 dX4_layOut_56 ?_
    refine wp_rload_0 dX4_layOut_57 ?_
    refine wp_callV_0 kX4_62 dX4_layOut_58 kd_1 rfl (c_X4_walls (g := g) (by rw [ly2_fr M (by decide)]; exact hg) h6 ?_) ⟨Nat.le_of_ble_eq_true rfl, Nat.le_of_ble_eq_true rfl, Nat.le_of_ble_eq_true rfl⟩ (Nat.le_of_ble_eq_true rfl)
    refine wp_icmp_ge (tgt := 85) dX4_layOut_61 rfl (fun c61 => ?_) (fun c61 => absurd (nI_le (by omega) (by omega)) c61)
    subst hn
    exact hx
  | succ n ih =>
    intro j hn
    refine wp_iload_2 dX4_layOut_56 ?_
    refine wp_rload_0 dX4_layOut_57 ?_
    refine wp_callV_0 kX4_62 dX4_layOut_58 kd_1 rfl (c_X4_walls (g := g) (by rw [ly2_fr M (by decide)]; exact hg) h6 ?_) ⟨Nat.le_of_ble_eq_true rfl, Nat.le_of_ble_eq_true rfl, Nat.le_of_ble_eq_true rfl⟩ (Nat.le_of_ble_eq_true rfl)
    refine wp_icmp_ge (tgt := 85) dX4_layOut_61 rfl (fun c61 => absurd c61 (nI_ge (by omega) (by omega))) (fun c61 => ?_)
    refine wp_rload_0 dX4_layOut_64 ?_
    refine wp_getR (t := 4) fX4_31 dX4_layOut_65 kd_1 rfl (rf_1_5) ?_
    refine wp_getR (t := 6) fX4_89 dX4_layOut_68 kd_4 rfl (rf_4_1) ?_
    refine wp_iload_2 dX4_layOut_71 ?_
    refine wp_rload_1 dX4_layOut_72 ?_
    refine wp_getR (t := 110) fX4_92 dX4_layOut_73 kd_106 rfl (rf_106_4) ?_
    refine wp_iload_2 dX4_layOut_76 ?_
    refine wp_ald (j := j) dX4_layOut_77 ar_110 (rfl) (by omega) ?_
    refine wp_ast (j := j) dX4_layOut_78 ar_6 (rfl) (by omega) ?_
    refine wp_iinc_2 (v := nI (j + 1)) dX4_layOut_79 (nI_inc _) (Nat.le_of_ble_eq_true rfl) rfl ?_
    refine wp_goto (tgt := 56) dX4_layOut_82 rfl ?_
    exact ih (j + 1) (by omega)
set_option maxRecDepth 100000 in
set_option maxHeartbeats 4000000 in
theorem c_X4_layOut {κ : KX} {M : MM} {Q : Option Value → va_W → Prop} {t : Nat} (ht : M.1 106 5 = nI t) (h6 : t ≤ 6) (hQ : Q (none) (wM κ (ly2 (ly1 (ly0 M) t) (t - 1)))) : CT κ (2, 0, 0) mX4_layOut [rv κ 1, rv κ 106] (wM κ M) Q := by
  refine CT.of okX4_layOut [some (rv κ 1), some (rv κ 106), none] (Nat.le_of_ble_eq_true rfl) rfl ?_
  refine wp_rload_0 dX4_layOut_0 ?_
  refine wp_iconst (v := 0) dX4_layOut_1 rfl ?_
  refine wp_putI fX4_18 dX4_layOut_2 kd_1 rfl rfl ?_
  refine wp_rload_0 dX4_layOut_5 ?_
  refine wp_rload_1 dX4_layOut_6 ?_
  refine wp_getI fX4_76 dX4_layOut_7 kd_106 rfl ?_
  refine wp_putI fX4_22 dX4_layOut_10 kd_1 rfl rfl ?_
  refine wp_rload_0 dX4_layOut_13 ?_
  refine wp_getR (t := 4) fX4_31 dX4_layOut_14 kd_1 rfl (rf_1_5) ?_
  refine wp_iconst (v := 0) dX4_layOut_17 rfl ?_
  refine wp_putI fX4_79 dX4_layOut_18 kd_4 rfl rfl ?_
  refine wp_iconst (v := 0) dX4_layOut_21 rfl ?_
  refine wp_istore_2 dX4_layOut_22 (Nat.le_of_ble_eq_true rfl) rfl ?_
  refine l_X4_layOut1 (M := ly0 M) (t := t) ht h6 rfl ?_ t 0 (by omega)
  refine wp_iconst (v := 0) dX4_layOut_54 rfl ?_
  refine wp_istore_2 dX4_layOut_55 (Nat.le_of_ble_eq_true rfl) rfl ?_
  refine l_X4_layOut2 (M := ly1 (ly0 M) t) (g := t) (ly1_g (ly0 M) rfl t) h6 ?_ (t - 1) 0 (by omega)
  refine wp_vret dX4_layOut_85 rfl rfl ?_
  exact hQ
