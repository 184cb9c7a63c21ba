/-! THE LAW: its loop -/
set_option maxRecDepth 100000 in
set_option maxHeartbeats 4000000 in
theorem law_end {Z : State → Prop} {κ : KX} {Q : Option Value → va_W → Prop} {L : List (Option Value)} {w : va_W} (hQ : ∀ w, Q (some (.int 1)) w) : WL Z κ (12, 600000, 7302250) mL_law 1183 L [] w (129, 1847) Q := by
  refine wl_iconst (v := 1) dL_law_1183 rfl ?_
  refine wl_wide (ct' := (600000, 7302250)) (Nat.le_of_ble_eq_true rfl) (Nat.le_of_ble_eq_true rfl) ?_
  exact wl_zret dL_law_1184 rfl rfl rfl (hQ w)
set_option maxRecDepth 100000 in
set_option maxHeartbeats 4000000 in
theorem law_loop {κ : KX} {Q : Option Value → va_W → Prop} {b N : Nat} {xs : Nat → Int32} (hb : b < kb κ) (h4 : N ≤ 448) (hQ : ∀ w, Q (some (.int 1)) w) : ∀ n i (M : MM), REL M → i ≤ 500 → N ≤ i + n → WL (ZS b N xs) κ (12, 600000, 7302250) mL_law 18 [some (.ref b), some (.ref (ka κ 0)), some (.ref (ka κ 120)), some (.int (nI i))] [] (wM κ M) (129, 1847) Q := by
  intro n
  induction n with
  | zero =>
    intro i M hM hi hn
    refine wl_iload_3 dL_law_18 ?_
    refine wl_aload_0 dL_law_19 ?_
    refine wl_slen hb dL_law_20 ?_
    refine wl_bipush (v := 7) dL_law_21 rfl ?_
    refine wl_isub dL_law_23 ?_
    refine wl_icmp_gt (tgt := 1183) dL_law_24 rfl (fun _ => ?_) (fun q => absurd ((law_gt h4 (by omega)).mpr (by omega)) q)
    exact law_end hQ
  | succ n ih =>
    intro i M hM hi hn
    refine wl_iload_3 dL_law_18 ?_
    refine wl_aload_0 dL_law_19 ?_
    refine wl_slen hb dL_law_20 ?_
    refine wl_bipush (v := 7) dL_law_21 rfl ?_
    refine wl_isub dL_law_23 ?_
    refine wl_icmp_gt (tgt := 1183) dL_law_24 rfl (fun _ => law_end hQ) (fun q => ?_)
    have hi7 : i + 7 ≤ N := Nat.le_of_not_lt (fun z => q ((law_gt h4 (by omega)).mpr z))
    have hN : ∀ M, REL M → WL (ZS b N xs) κ (12, 600000, 7302250) mL_law 1177 [some (.ref b), some (.ref (ka κ 0)), some (.ref (ka κ 120)), some (.int (nI i))] [] (wM κ M) (129, 1847) Q := by
      intro M hM
      refine wl_iinc_3 (v := nI (i + 7)) dL_law_1177 (nI_add i 7) (Nat.le_of_ble_eq_true rfl) rfl ?_
      refine wl_goto (tgt := 18) dL_law_1180 rfl ?_
      exact ih (i + 7) M hM (by omega) (by omega)
    refine wl_aload_0 dL_law_27 ?_
    refine wl_iload_3 dL_law_28 ?_
    refine wl_sld (j := i) hb dL_law_29 rfl (by omega) (by omega) ?_
    refine wl_bipush (v := 31) dL_law_30 rfl ?_
    refine wl_iand dL_law_32 ?_
    generalize xs i &&& 31 = x
    refine sw_0_30 x (fun hzQ => ?_) (fun hzQ => ?_) (fun hzQ => ?_) (fun hzQ => ?_) (fun hzQ => ?_) (fun hzQ => ?_) (fun hzQ => ?_) (fun hzQ => ?_) (fun hzQ => ?_) (fun hzQ => ?_) (fun hzQ => ?_) (fun hzQ => ?_) (fun hzQ => ?_) (fun hzQ => ?_) (fun hzQ => ?_) (fun hzQ => ?_) (fun hzQ => ?_) (fun hzQ => ?_) (fun hzQ => ?_) (fun hzQ => ?_) (fun hzQ => ?_) (fun hzQ => ?_) (fun hzQ => ?_) (fun hzQ => ?_) (fun hzQ => ?_) (fun hzQ => ?_) (fun hzQ => ?_) (fun hzQ => ?_) (fun hzQ => ?_) (fun hzQ => ?_) (fun hzQ => ?_) (fun hzQ => ?_)
    · subst hzQ
      refine wl_switch dL_law_33 172 rfl (fun _ => (Nat.le_of_ble_eq_true rfl)) ?_
      exact law_0 hb h4 hi7 hM hN
    · subst hzQ
      refine wl_switch dL_law_33 205 rfl (fun _ => (Nat.le_of_ble_eq_true rfl)) ?_
      exact law_1 hb h4 hi7 hM hN
    · subst hzQ
      refine wl_switch dL_law_33 238 rfl (fun _ => (Nat.le_of_ble_eq_true rfl)) ?_
      exact law_2 hb h4 hi7 hM hN
    · subst hzQ
      refine wl_switch dL_law_33 271 rfl (fun _ => (Nat.le_of_ble_eq_true rfl)) ?_
      exact law_3 hb h4 hi7 hM hN
    · subst hzQ
      refine wl_switch dL_law_33 304 rfl (fun _ => (Nat.le_of_ble_eq_true rfl)) ?_
      exact law_4 hb h4 hi7 hM hN
    · subst hzQ
      refine wl_switch dL_law_33 337 rfl (fun _ => (Nat.le_of_ble_eq_true rfl)) ?_
      exact law_5 hb h4 hi7 hM hN
    · subst hzQ
      refine wl_switch dL_law_33 360 rfl (fun _ => (Nat.le_of_ble_eq_true rfl)) ?_
      exact law_6 hb h4 hi7 hM hN
    · subst hzQ
      refine wl_switch dL_law_33 373 rfl (fun _ => (Nat.le_of_ble_eq_true rfl)) ?_
      exact law_7 hb h4 hi7 hM hN
    · subst hzQ
      refine wl_switch dL_law_33 396 rfl (fun _ => (Nat.le_of_ble_eq_true rfl)) ?_
      exact law_8 hb h4 hi7 hM hN
    · subst hzQ
      refine wl_switch dL_law_33 419 rfl (fun _ => (Nat.le_of_ble_eq_true rfl)) ?_
      exact law_9 hb h4 hi7 hM hN
    · subst hzQ
      refine wl_switch dL_law_33 442 rfl (fun _ => (Nat.le_of_ble_eq_true rfl)) ?_
      exact law_10 hb h4 hi7 hM hN
    · subst hzQ
      refine wl_switch dL_law_33 485 rfl (fun _ => (Nat.le_of_ble_eq_true rfl)) ?_
      exact law_11 hb h4 hi7 hM hN
    · subst hzQ
      refine wl_switch dL_law_33 518 rfl (fun _ => (Nat.le_of_ble_eq_true rfl)) ?_
      exact law_12 hb h4 hi7 hM hN
    · subst hzQ
      refine wl_switch dL_law_33 541 rfl (fun _ => (Nat.le_of_ble_eq_true rfl)) ?_
      exact law_13 hb h4 hi7 hM hN
    · subst hzQ
      refine wl_switch dL_law_33 564 rfl (fun _ => (Nat.le_of_ble_eq_true rfl)) ?_
      exact law_14 hb h4 hi7 hM hN
    · subst hzQ
      refine wl_switch dL_law_33 587 rfl (fun _ => (Nat.le_of_ble_eq_true rfl)) ?_
      exact law_15 hb h4 hi7 hM hN
    · subst hzQ
      refine wl_switch dL_law_33 600 rfl (fun _ => (Nat.le_of_ble_eq_true rfl)) ?_
      exact law_16 hb h4 hi7 hM hN
    · subst hzQ
      refine wl_switch dL_law_33 623 rfl (fun _ => (Nat.le_of_ble_eq_true rfl)) ?_
      exact law_17 hb h4 hi7 hM hN
    · subst hzQ
      refine wl_switch dL_law_33 666 rfl (fun _ => (Nat.le_of_ble_eq_true rfl)) ?_
      exact law_18 hb h4 hi7 hM hN
    · subst hzQ
      refine wl_switch dL_law_33 679 rfl (fun _ => (Nat.le_of_ble_eq_true rfl)) ?_
      exact law_19 hb h4 hi7 hM hN
    · subst hzQ
      refine wl_switch dL_law_33 712 rfl (fun _ => (Nat.le_of_ble_eq_true rfl)) ?_
      exact law_20 hb h4 hi7 hM hN
    · subst hzQ
      refine wl_switch dL_law_33 745 rfl (fun _ => (Nat.le_of_ble_eq_true rfl)) ?_
      exact law_21 hb h4 hi7 hM hN
    · subst hzQ
      refine wl_switch dL_law_33 778 rfl (fun _ => (Nat.le_of_ble_eq_true rfl)) ?_
      exact law_22 hb h4 hi7 hM hN
    · subst hzQ
      refine wl_switch dL_law_33 801 rfl (fun _ => (Nat.le_of_ble_eq_true rfl)) ?_
      exact law_23 hb h4 hi7 hM hN
    · subst hzQ
      refine wl_switch dL_law_33 814 rfl (fun _ => (Nat.le_of_ble_eq_true rfl)) ?_
      exact law_24 hb h4 hi7 hM hN
    · subst hzQ
      refine wl_switch dL_law_33 827 rfl (fun _ => (Nat.le_of_ble_eq_true rfl)) ?_
      exact law_25 hb h4 hi7 hM hN
    · subst hzQ
      refine wl_switch dL_law_33 902 rfl (fun _ => (Nat.le_of_ble_eq_true rfl)) ?_
      exact law_26 hb h4 hi7 hM hN
    · subst hzQ
      refine wl_switch dL_law_33 965 rfl (fun _ => (Nat.le_of_ble_eq_true rfl)) ?_
      exact law_27 hb h4 hi7 hM hN
    · subst hzQ
      refine wl_switch dL_law_33 1008 rfl (fun _ => (Nat.le_of_ble_eq_true rfl)) ?_
      exact law_28 hb h4 hi7 hM hN
    · subst hzQ
      refine wl_switch dL_law_33 1031 rfl (fun _ => (Nat.le_of_ble_eq_true rfl)) ?_
      exact law_29 hb h4 hi7 hM hN
    · subst hzQ
      refine wl_switch dL_law_33 1114 rfl (fun _ => (Nat.le_of_ble_eq_true rfl)) ?_
      exact law_30 hb h4 hi7 hM hN
    · refine wl_switch dL_law_33 1177 (by rw [if_pos hzQ]; rfl) (fun q => absurd hzQ q) ?_
      exact hN M hM
