/-! the reference: what is read of now, what is done -/
theorem sub2_toInt {a : Nat} (h : a < 1000) : (nI a - 2).toInt = (a : Int) - 2 := pk_sub_toInt (b := 2) (by omega) (by decide)
theorem wi_g2 (x : Int32) {g : Nat} (h6 : g ≤ 6) : wi x 0 (nI g - 2) = wi x 0 (nI (g - 1) - 1) := by
  unfold wi
  by_cases h : x < 0
  · rw [if_pos h, if_pos h]
  · rw [if_neg h, if_neg h]
    have e : (nI g - 2 < x) ↔ (nI (g - 1) - 1 < x) := by
      rw [i32_lt, i32_lt, sub2_toInt (by omega), sub1_toInt (by omega)]
      rw [i32_lt] at h
      have : (0 : Int32).toInt = 0 := rfl
      omega
    by_cases h2 : nI g - 2 < x
    · rw [if_pos h2, if_pos (e.mp h2)]
    · rw [if_neg h2, if_neg (fun q => h2 (e.mpr q))]
set_option maxRecDepth 100000 in
set_option maxHeartbeats 4000000 in
theorem c_X7_isGarden {κ : KX} {M : MM} {Q : Option Value → va_W → Prop} {g : Nat} {x : Int32} (hg : M.1 121 0 = nI g) (hQ : Q (some (.int (wi x 0 (nI g - 1)))) (wM κ (M))) : CT κ (1, 0, 0) mX7_isGarden [rv κ 120, .int x] (wM κ M) Q := by
  refine CT.of okX7_isGarden [some (rv κ 120), some (.int x)] (Nat.le_of_ble_eq_true rfl) rfl ?_
  refine wp_iload_1 dX7_isGarden_0 ?_
  refine wp_i2l dX7_isGarden_1 ?_
  refine wp_lconst (v := 0) dX7_isGarden_2 rfl ?_
  refine wp_rload_0 dX7_isGarden_3 ?_
  refine wp_getR (t := 121) fX7_7 dX7_isGarden_4 kd_120 rfl (rf_120_0) ?_
  refine wp_iconst (v := 0) dX7_isGarden_7 rfl ?_
  refine wp_ald (j := 0) dX7_isGarden_8 ar_121 (rfl) (by omega) ?_
  rw [hg]
  refine wp_iconst (v := 1) dX7_isGarden_9 rfl ?_
  refine wp_isub dX7_isGarden_10 ?_
  refine wp_i2l dX7_isGarden_11 ?_
  refine wp_callS_3 kX7_43 dX7_isGarden_12 (c_X7_in (lo := 0) (by decide) rfl ?_) ⟨Nat.le_of_ble_eq_true rfl, Nat.le_of_ble_eq_true rfl, Nat.le_of_ble_eq_true rfl⟩ (Nat.le_of_ble_eq_true rfl)
  refine wp_zret dX7_isGarden_15 rfl (wi_nar _ _ _) rfl ?_
  exact hQ
set_option maxRecDepth 100000 in
set_option maxHeartbeats 4000000 in
theorem c_X7_isWall {κ : KX} {M : MM} {Q : Option Value → va_W → Prop} {g : Nat} {x : Int32} (hg : M.1 121 0 = nI g) (h6 : g ≤ 6) (hQ : Q (some (.int (wi x 0 (nI (g - 1) - 1)))) (wM κ (M))) : CT κ (1, 0, 0) mX7_isWall [rv κ 120, .int x] (wM κ M) Q := by
  refine CT.of okX7_isWall [some (rv κ 120), some (.int x)] (Nat.le_of_ble_eq_true rfl) rfl ?_
  refine wp_iload_1 dX7_isWall_0 ?_
  refine wp_i2l dX7_isWall_1 ?_
  refine wp_lconst (v := 0) dX7_isWall_2 rfl ?_
  refine wp_rload_0 dX7_isWall_3 ?_
  refine wp_getR (t := 121) fX7_7 dX7_isWall_4 kd_120 rfl (rf_120_0) ?_
  refine wp_iconst (v := 0) dX7_isWall_7 rfl ?_
  refine wp_ald (j := 0) dX7_isWall_8 ar_121 (rfl) (by omega) ?_
  rw [hg]
  refine wp_iconst (v := 2) dX7_isWall_9 rfl ?_
  refine wp_isub dX7_isWall_10 ?_
  refine wp_i2l dX7_isWall_11 ?_
  refine wp_callS_3 kX7_43 dX7_isWall_12 (c_X7_in (lo := 0) (by decide) rfl ?_) ⟨Nat.le_of_ble_eq_true rfl, Nat.le_of_ble_eq_true rfl, Nat.le_of_ble_eq_true rfl⟩ (Nat.le_of_ble_eq_true rfl)
  refine wp_zret dX7_isWall_15 rfl (wi_nar _ _ _) rfl ?_
  exact Qe hQ (wi_g2 x h6) rfl
def utl (h : Nat → Int32) : Int32 := h 1 - rem (h 3) (h 1)
set_option maxRecDepth 100000 in
set_option maxHeartbeats 4000000 in
theorem c_X7_until {κ : KX} {M : MM} {Q : Option Value → va_W → Prop}  (hy : 0 < M.1 121 1) (hQ : Q (some (.int (utl (M.1 121)))) (wM κ (M))) : CT κ (0, 0, 0) mX7_until [rv κ 120] (wM κ M) Q := by
  refine CT.of okX7_until [some (rv κ 120)] (Nat.le_of_ble_eq_true rfl) rfl ?_
  refine wp_rload_0 dX7_until_0 ?_
  refine wp_getR (t := 121) fX7_7 dX7_until_1 kd_120 rfl (rf_120_0) ?_
  refine wp_iconst (v := 1) dX7_until_4 rfl ?_
  refine wp_ald (j := 1) dX7_until_5 ar_121 (rfl) (by omega) ?_
  refine wp_rload_0 dX7_until_6 ?_
  refine wp_getR (t := 121) fX7_7 dX7_until_7 kd_120 rfl (rf_120_0) ?_
  refine wp_iconst (v := 3) dX7_until_10 rfl ?_
  refine wp_ald (j := 3) dX7_until_11 ar_121 (rfl) (by omega) ?_
  refine wp_rload_0 dX7_until_12 ?_
  refine wp_getR (t := 121) fX7_7 dX7_until_13 kd_120 rfl (rf_120_0) ?_
  refine wp_iconst (v := 1) dX7_until_16 rfl ?_
  refine wp_ald (j := 1) dX7_until_17 ar_121 (rfl) (by omega) ?_
  refine wp_irem dX7_until_18 (gt_ne0 hy) ?_
  refine wp_isub dX7_until_19 ?_
  refine wp_iret dX7_until_20 rfl rfl ?_
  exact hQ
def wtF (h : Nat → Int32) (w : Nat) : Int32 := if h (32 + w) = -99 then 0 else if 0 ≤ h (32 + w) + 3 - h 3 then h (32 + w) + 3 - h 3 else 0
set_option maxRecDepth 100000 in
set_option maxHeartbeats 4000000 in
theorem c_X7_waits {κ : KX} {M : MM} {Q : Option Value → va_W → Prop} {w : Nat} (hw : w < 5) (hQ : Q (some (.int (wtF (M.1 121) w))) (wM κ (M))) : CT κ (0, 0, 0) mX7_waits [rv κ 120, .int (nI w)] (wM κ M) Q := by
  refine CT.of okX7_waits [some (rv κ 120), some (.int (nI w)), none] (Nat.le_of_ble_eq_true rfl) rfl ?_
  refine wp_rload_0 dX7_waits_0 ?_
  refine wp_getR (t := 121) fX7_7 dX7_waits_1 kd_120 rfl (rf_120_0) ?_
  refine wp_bipush (v := 32) dX7_waits_4 rfl ?_
  refine wp_iload_1 dX7_waits_6 ?_
  refine wp_iadd dX7_waits_7 ?_
  refine wp_ald (j := (32 + w)) dX7_waits_8 ar_121 (nI_add _ _) (by omega) ?_
  refine wp_iconst (v := 3) dX7_waits_9 rfl ?_
  refine wp_iadd dX7_waits_10 ?_
  refine wp_rload_0 dX7_waits_11 ?_
  refine wp_getR (t := 121) fX7_7 dX7_waits_12 kd_120 rfl (rf_120_0) ?_
  refine wp_iconst (v := 3) dX7_waits_15 rfl ?_
  refine wp_ald (j := 3) dX7_waits_16 ar_121 (rfl) (by omega) ?_
  refine wp_isub dX7_waits_17 ?_
  refine wp_istore_2 dX7_waits_18 (Nat.le_of_ble_eq_true rfl) rfl ?_
  refine wp_rload_0 dX7_waits_19 ?_
  refine wp_getR (t := 121) fX7_7 dX7_waits_20 kd_120 rfl (rf_120_0) ?_
  refine wp_bipush (v := 32) dX7_waits_23 rfl ?_
  refine wp_iload_1 dX7_waits_25 ?_
  refine wp_iadd dX7_waits_26 ?_
  refine wp_ald (j := (32 + w)) dX7_waits_27 ar_121 (nI_add _ _) (by omega) ?_
  refine wp_bipush (v := (-99)) dX7_waits_28 rfl ?_
  refine wp_icmp_eq (tgt := 37) dX7_waits_30 rfl (fun c30 => ?_) (fun c30 => ?_)
  · refine wp_iconst (v := 0) dX7_waits_37 rfl ?_
    refine wp_goto (tgt := 42) dX7_waits_38 rfl ?_
    refine wp_iret dX7_waits_42 rfl rfl ?_
    first
      | exact Qe hQ (if_pos c30).symm rfl
      | exact Qe hQ ((if_neg c30).trans (if_pos c34)).symm rfl
      | exact Qe hQ ((if_neg c30).trans (if_neg c34)).symm rfl
  · refine wp_iload_2 dX7_waits_33 ?_
    refine wp_if_ge (tgt := 41) dX7_waits_34 rfl (fun c34 => ?_) (fun c34 => ?_)
    · refine wp_iload_2 dX7_waits_41 ?_
      refine wp_iret dX7_waits_42 rfl rfl ?_
      first
        | exact Qe hQ (if_pos c30).symm rfl
        | exact Qe hQ ((if_neg c30).trans (if_pos c34)).symm rfl
        | exact Qe hQ ((if_neg c30).trans (if_neg c34)).symm rfl
    · refine wp_iconst (v := 0) dX7_waits_37 rfl ?_
      refine wp_goto (tgt := 42) dX7_waits_38 rfl ?_
      refine wp_iret dX7_waits_42 rfl rfl ?_
      first
        | exact Qe hQ (if_pos c30).symm rfl
        | exact Qe hQ ((if_neg c30).trans (if_pos c34)).symm rfl
        | exact Qe hQ ((if_neg c30).trans (if_neg c34)).symm rfl
def msF (h : Nat → Int32) : Nat → Int32
  | 0 => 0
  | j + 1 => msF h j ||| (if ¬ wtF h j = 0 then 0 else (1 : Int32) <<< (nI j &&& 31))
set_option maxRecDepth 100000 in
set_option maxHeartbeats 4000000 in
theorem l_X7_maySorry {κ : KX} {M : MM} {Q : Option Value → va_W → Prop} {g : Nat} (hg : M.1 121 0 = nI g) (h6 : g ≤ 6) (hx : WP κ (1, 0, 0) mX7_maySorry 40 [some (rv κ 120), some (.int (msF (M.1 121) ((g - 1)))), some (.int (nI ((g - 1))))] [] (wM κ (M)) (0, 0) Q) : ∀ n j, j + n = (g - 1) → WP κ (1, 0, 0) mX7_maySorry 4 [some (rv κ 120), some (.int (msF (M.1 121) j)), some (.int (nI j))] [] (wM κ (M)) (0, 0) Q := by
  intro n
  induction n with
  | zero =>
    intro j hn
    have hn : j = (g - 1) := hn
    refine wp_iload_2 dX7_maySorry_4 ?_
    refine wp_rload_0 dX7_maySorry_5 ?_
    refine wp_getR (t := 121) fX7_7 dX7_maySorry_6 kd_120 rfl (rf_120_0) ?_
    refine wp_iconst (v := 0) dX7_maySorry_9 rfl ?_
    refine wp_ald (j := 0) dX7_maySorry_10 ar_121 (rfl) (by omega) ?_
    rw [hg]
    refine wp_iconst (v := 1) dX7_maySorry_11 rfl ?_
    refine wp_isub dX7_maySorry_12 ?_
    refine wp_icmp_ge (tgt := 40) dX7_maySorry_13 rfl (fun c13 => ?_) (fun c13 => absurd (gm1_le (by omega) (by omega) (by omega)) c13)
    subst hn
    exact hx
  | succ n ih =>
    intro j hn
    refine wp_iload_2 dX7_maySorry_4 ?_
    refine wp_rload_0 dX7_maySorry_5 ?_
    refine wp_getR (t := 121) fX7_7 dX7_maySorry_6 kd_120 rfl (rf_120_0) ?_
    refine wp_iconst (v := 0) dX7_maySorry_9 rfl ?_
    refine wp_ald (j := 0) dX7_maySorry_10 ar_121 (rfl) (by omega) ?_
    rw [hg]
    refine wp_iconst (v := 1) dX7_maySorry_11 rfl ?_
    refine wp_isub dX7_maySorry_12 ?_
    refine wp_icmp_ge (tgt := 40) dX7_maySorry_13 rfl (fun c13 => absurd c13 (gm1_gt (by omega) (by omega))) (fun c13 => ?_)
    refine wp_iload_1 dX7_maySorry_16 ?_
    refine wp_rload_0 dX7_maySorry_17 ?_
    refine wp_iload_2 dX7_maySorry_18 ?_
    refine wp_callV_1 kX7_67 dX7_maySorry_19 kd_120 rfl (c_X7_waits (by omega) ?_) ⟨Nat.le_of_ble_eq_true rfl, Nat.le_of_ble_eq_true rfl, Nat.le_of_ble_eq_true rfl⟩ (Nat.le_of_ble_eq_true rfl)
    refine wp_if_ne (tgt := 31) dX7_maySorry_22 rfl (fun c22 => ?_) (fun c22 => ?_)
    · refine wp_iconst (v := 0) dX7_maySorry_31 rfl ?_
      refine wp_ior dX7_maySorry_32 ?_
      refine wp_istore_1 dX7_maySorry_33 (Nat.le_of_ble_eq_true rfl) rfl ?_
      refine wp_iinc_2 (v := nI (j + 1)) dX7_maySorry_34 (nI_inc _) (Nat.le_of_ble_eq_true rfl) rfl ?_
      refine wp_goto (tgt := 4) dX7_maySorry_37 rfl ?_
      have h := ih (j + 1) (by omega)
      first
        | (rw [show msF (M.1 121) (j + 1) = msF (M.1 121) j ||| 0 from congrArg (fun z => msF (M.1 121) j ||| z) (if_pos c22)] at h; exact h)
        | (rw [show msF (M.1 121) (j + 1) = msF (M.1 121) j ||| ((1 : Int32) <<< (nI j &&& 31)) from congrArg (fun z => msF (M.1 121) j ||| z) (if_neg (fun q => q c22))] at h; exact h)
    · refine wp_iconst (v := 1) dX7_maySorry_25 rfl ?_
      refine wp_iload_2 dX7_maySorry_26 ?_
      refine wp_ishl dX7_maySorry_27 ?_
      refine wp_goto (tgt := 32) dX7_maySorry_28 rfl ?_
      refine wp_ior dX7_maySorry_32 ?_
      refine wp_istore_1 dX7_maySorry_33 (Nat.le_of_ble_eq_true rfl) rfl ?_
      refine wp_iinc_2 (v := nI (j + 1)) dX7_maySorry_34 (nI_inc _) (Nat.le_of_ble_eq_true rfl) rfl ?_
      refine wp_goto (tgt := 4) dX7_maySorry_37 rfl ?_
      have h := ih (j + 1) (by omega)
      first
        | (rw [show msF (M.1 121) (j + 1) = msF (M.1 121) j ||| 0 from congrArg (fun z => msF (M.1 121) j ||| z) (if_pos c22)] at h; exact h)
        | (rw [show msF (M.1 121) (j + 1) = msF (M.1 121) j ||| ((1 : Int32) <<< (nI j &&& 31)) from congrArg (fun z => msF (M.1 121) j ||| z) (if_neg (fun q => q c22))] at h; exact h)
set_option maxRecDepth 100000 in
set_option maxHeartbeats 4000000 in
theorem c_X7_maySorry {κ : KX} {M : MM} {Q : Option Value → va_W → Prop} {g : Nat} (hg : M.1 121 0 = nI g) (h6 : g ≤ 6) (hQ : Q (some (.int (msF (M.1 121) (g - 1)))) (wM κ (M))) : CT κ (1, 0, 0) mX7_maySorry [rv κ 120] (wM κ M) Q := by
  refine CT.of okX7_maySorry [some (rv κ 120), none, none] (Nat.le_of_ble_eq_true rfl) rfl ?_
  refine wp_iconst (v := 0) dX7_maySorry_0 rfl ?_
  refine wp_istore_1 dX7_maySorry_1 (Nat.le_of_ble_eq_true rfl) rfl ?_
  refine wp_iconst (v := 0) dX7_maySorry_2 rfl ?_
  refine wp_istore_2 dX7_maySorry_3 (Nat.le_of_ble_eq_true rfl) rfl ?_
  refine l_X7_maySorry hg h6 ?_ (g - 1) 0 (by omega)
  refine wp_iload_1 dX7_maySorry_40 ?_
  refine wp_iret dX7_maySorry_41 rfl rfl ?_
  exact hQ
def fdn (h : Nat → Int32) : Nat → Int32 → Int32
  | 0, a => a
  | n + 1, a => if 5 ≤ h (22 + n) then a else fdn h n (a ||| ((1 : Int32) <<< (nI n &&& 31)))
def fup (h : Nat → Int32) : Nat → Nat → Int32 → Int32
  | 0, _, a => a
  | n + 1, j, a => if 5 ≤ h (22 + (j - 1)) then a else fup h n (j + 1) (a ||| ((1 : Int32) <<< (nI j &&& 31)))
theorem ix22 {j : Nat} (h : 1 ≤ j) : (22 : Int32) + nI j - 1 = nI (22 + (j - 1)) := by
  have e : (22 : Int32) + nI j = nI (22 + j) := nI_add 22 j
  rw [e, nI_sub1 (by omega)]
  congr 1
  omega
set_option maxRecDepth 100000 in
set_option maxHeartbeats 4000000 in
theorem l_X7_sees2 {κ : KX} {M : MM} {Q : Option Value → va_W → Prop} {z : Int32} : ∀ n a, n ≤ 5 → Q (some (.int (fdn (M.1 121) n a))) (wM κ M) → WP κ (0, 0, 0) mX7_sees 47 [some (rv κ 120), some (.int z), some (.int a), some (.int (nI n - 1))] [] (wM κ M) (0, 0) Q := by
  intro n
  induction n with
  | zero =>
    intro a hn hQ
    refine wp_iload_3 dX7_sees_47 ?_
    refine wp_if_lt (tgt := 76) dX7_sees_48 rfl (fun c48 => ?_) (fun c48 => absurd (by decide) c48)
    refine wp_iload_2 dX7_sees_76 ?_
    refine wp_iret dX7_sees_77 rfl rfl ?_
    exact hQ
  | succ n ih =>
    intro a hn hQ
    rw [nI_pred n]
    refine wp_iload_3 dX7_sees_47 ?_
    refine wp_if_lt (tgt := 76) dX7_sees_48 rfl (fun c48 => absurd c48 (nI_pos (by omega))) (fun c48 => ?_)
    refine wp_rload_0 dX7_sees_51 ?_
    refine wp_getR (t := 121) fX7_7 dX7_sees_52 kd_120 rfl (rf_120_0) ?_
    refine wp_bipush (v := 22) dX7_sees_55 rfl ?_
    refine wp_iload_3 dX7_sees_57 ?_
    refine wp_iadd dX7_sees_58 ?_
    refine wp_ald (j := (22 + n)) dX7_sees_59 ar_121 (nI_add _ _) (by omega) ?_
    refine wp_iconst (v := 5) dX7_sees_60 rfl ?_
    refine wp_icmp_ge (tgt := 76) dX7_sees_61 rfl (fun c61 => ?_) (fun c61 => ?_)
    · refine wp_iload_2 dX7_sees_76 ?_
      refine wp_iret dX7_sees_77 rfl rfl ?_
      exact Qe hQ (by rw [fdn, if_pos c61]) rfl
    · refine wp_iload_2 dX7_sees_64 ?_
      refine wp_iconst (v := 1) dX7_sees_65 rfl ?_
      refine wp_iload_3 dX7_sees_66 ?_
      refine wp_ishl dX7_sees_67 ?_
      refine wp_ior dX7_sees_68 ?_
      refine wp_istore_2 dX7_sees_69 (Nat.le_of_ble_eq_true rfl) rfl ?_
      refine wp_iinc_3 (v := nI n - 1) dX7_sees_70 (nI_decr n) (Nat.le_of_ble_eq_true rfl) rfl ?_
      refine wp_goto (tgt := 47) dX7_sees_73 rfl ?_
      exact ih _ (by omega) (Qe hQ (by rw [fdn, if_neg c61]) rfl)
set_option maxRecDepth 100000 in
set_option maxHeartbeats 4000000 in
theorem l_X7_sees1 {κ : KX} {M : MM} {Q : Option Value → va_W → Prop} {g z : Nat} (hg : M.1 121 0 = nI g) (h6 : g ≤ 6) (hz2 : z < g) : ∀ n j a, j + n = g → 1 ≤ j → Q (some (.int (fdn (M.1 121) z (fup (M.1 121) n j a)))) (wM κ M) → WP κ (0, 0, 0) mX7_sees 6 [some (rv κ 120), some (.int (nI z)), some (.int a), some (.int (nI j))] [] (wM κ M) (0, 0) Q := by
  intro n
  induction n with
  | zero =>
    intro j a hn h1 hQ
    refine wp_iload_3 dX7_sees_6 ?_
    refine wp_rload_0 dX7_sees_7 ?_
    refine wp_getR (t := 121) fX7_7 dX7_sees_8 kd_120 rfl (rf_120_0) ?_
    refine wp_iconst (v := 0) dX7_sees_11 rfl ?_
    refine wp_ald (j := 0) dX7_sees_12 ar_121 (rfl) (by omega) ?_
    rw [hg]
    refine wp_icmp_ge (tgt := 43) dX7_sees_13 rfl (fun c13 => ?_) (fun c13 => absurd (nI_le (by omega) (by omega)) c13)
    refine wp_iload_1 dX7_sees_43 ?_
    refine wp_iconst (v := 1) dX7_sees_44 rfl ?_
    refine wp_isub dX7_sees_45 ?_
    refine wp_istore_3 dX7_sees_46 (Nat.le_of_ble_eq_true rfl) rfl ?_
    exact l_X7_sees2 z _ (by omega) hQ
  | succ n ih =>
    intro j a hn h1 hQ
    refine wp_iload_3 dX7_sees_6 ?_
    refine wp_rload_0 dX7_sees_7 ?_
    refine wp_getR (t := 121) fX7_7 dX7_sees_8 kd_120 rfl (rf_120_0) ?_
    refine wp_iconst (v := 0) dX7_sees_11 rfl ?_
    refine wp_ald (j := 0) dX7_sees_12 ar_121 (rfl) (by omega) ?_
    rw [hg]
    refine wp_icmp_ge (tgt := 43) dX7_sees_13 rfl (fun c13 => absurd c13 (nI_ge (by omega) (by omega))) (fun c13 => ?_)
    refine wp_rload_0 dX7_sees_16 ?_
    refine wp_getR (t := 121) fX7_7 dX7_sees_17 kd_120 rfl (rf_120_0) ?_
    refine wp_bipush (v := 22) dX7_sees_20 rfl ?_
    refine wp_iload_3 dX7_sees_22 ?_
    refine wp_iadd dX7_sees_23 ?_
    refine wp_iconst (v := 1) dX7_sees_24 rfl ?_
    refine wp_isub dX7_sees_25 ?_
    refine wp_ald (j := (22 + (j - 1))) dX7_sees_26 ar_121 (ix22 h1) (by omega) ?_
    refine wp_iconst (v := 5) dX7_sees_27 rfl ?_
    refine wp_icmp_ge (tgt := 43) dX7_sees_28 rfl (fun c28 => ?_) (fun c28 => ?_)
    · refine wp_iload_1 dX7_sees_43 ?_
      refine wp_iconst (v := 1) dX7_sees_44 rfl ?_
      refine wp_isub dX7_sees_45 ?_
      refine wp_istore_3 dX7_sees_46 (Nat.le_of_ble_eq_true rfl) rfl ?_
      exact l_X7_sees2 z _ (by omega) (Qe hQ (by rw [fup, if_pos c28]) rfl)
    · refine wp_iload_2 dX7_sees_31 ?_
      refine wp_iconst (v := 1) dX7_sees_32 rfl ?_
      refine wp_iload_3 dX7_sees_33 ?_
      refine wp_ishl dX7_sees_34 ?_
      refine wp_ior dX7_sees_35 ?_
      refine wp_istore_2 dX7_sees_36 (Nat.le_of_ble_eq_true rfl) rfl ?_
      refine wp_iinc_3 (v := nI (j + 1)) dX7_sees_37 (nI_inc _) (Nat.le_of_ble_eq_true rfl) rfl ?_
      refine wp_goto (tgt := 6) dX7_sees_40 rfl ?_
      exact ih (j + 1) _ (by omega) (by omega) (Qe hQ (by rw [fup, if_neg c28]) rfl)
set_option maxRecDepth 100000 in
set_option maxHeartbeats 4000000 in
theorem c_X7_sees {κ : KX} {M : MM} {Q : Option Value → va_W → Prop} {g z : Nat} (hg : M.1 121 0 = nI g) (h6 : g ≤ 6) (hz2 : z < g) (hQ : Q (some (.int (fdn (M.1 121) z (fup (M.1 121) (g - (z + 1)) (z + 1) 0)))) (wM κ (M))) : CT κ (0, 0, 0) mX7_sees [rv κ 120, .int (nI z)] (wM κ M) Q := by
  refine CT.of okX7_sees [some (rv κ 120), some (.int (nI z)), none, none] (Nat.le_of_ble_eq_true rfl) rfl ?_
  refine wp_iconst (v := 0) dX7_sees_0 rfl ?_
  refine wp_istore_2 dX7_sees_1 (Nat.le_of_ble_eq_true rfl) rfl ?_
  refine wp_iload_1 dX7_sees_2 ?_
  refine wp_iconst (v := 1) dX7_sees_3 rfl ?_
  refine wp_iadd dX7_sees_4 ?_
  rw [show nI z + 1 = nI (z + 1) from nI_1 z]
  refine wp_istore_3 dX7_sees_5 (Nat.le_of_ble_eq_true rfl) rfl ?_
  exact l_X7_sees1 hg h6 hz2 _ (z + 1) _ (by omega) (by omega) hQ
def tGdF (f : Nat → Int32) (g : Nat) (kq no : Int32) : Nat → Int32 := upd (upd (upd (upd f (4 + g) kq) (10 + g) no) 0 (nI g + 1)) 38 0
def tGdn (f : Nat → Int32) (g : Nat) (kq no : Int32) : (Nat → Int32) × Int32 := if wi kq 0 4 = 0 then (f, -1) else if wi no 0 9 = 0 then (f, -1) else if nI g = 6 then (f, -3) else (tGdF f g kq no, nI g)
set_option maxRecDepth 100000 in
set_option maxHeartbeats 4000000 in
theorem c_X7_garden {κ : KX} {M : MM} {Q : Option Value → va_W → Prop} {f : Nat → Int32} {g : Nat} {kq no : Int32} (hg : f 0 = nI g) (h6 : g ≤ 6) (hQ : Q (some (.int (tGdn f g kq no).2)) (wM κ (rI M 121 (tGdn f g kq no).1))) : CT κ (1, 0, 0) mX7_garden [rv κ 120, .int kq, .int no] (wM κ (rI M 121 f)) Q := by
  refine CT.of okX7_garden [some (rv κ 120), some (.int kq), some (.int no), none] (Nat.le_of_ble_eq_true rfl) rfl ?_
  refine wp_iload_1 dX7_garden_0 ?_
  refine wp_i2l dX7_garden_1 ?_
  refine wp_lconst (v := 0) dX7_garden_2 rfl ?_
  refine wp_ldc2 nX7_70 dX7_garden_3 ?_
  refine wp_callS_3 kX7_43 dX7_garden_6 (c_X7_in (lo := 0) (hi := 4) (by decide) (by decide) ?_) ⟨Nat.le_of_ble_eq_true rfl, Nat.le_of_ble_eq_true rfl, Nat.le_of_ble_eq_true rfl⟩ (Nat.le_of_ble_eq_true rfl)
  refine wp_if_eq (tgt := 24) dX7_garden_9 rfl (fun c9 => ?_) (fun c9 => ?_)
  · refine wp_iconst (v := (-1)) dX7_garden_24 rfl ?_
    refine wp_iret dX7_garden_25 rfl rfl ?_
    first
      | (rw [tGdn, if_pos c9] at hQ; exact hQ)
      | (rw [tGdn, if_neg c9, if_pos c21] at hQ; exact hQ)
      | (rw [tGdn, if_neg c9, if_neg c21, if_pos c36] at hQ; exact hQ)
      | (rw [tGdn, if_neg c9, if_neg c21, if_neg c36] at hQ; exact hQ)
  · refine wp_iload_2 dX7_garden_12 ?_
    refine wp_i2l dX7_garden_13 ?_
    refine wp_lconst (v := 0) dX7_garden_14 rfl ?_
    refine wp_ldc2 nX7_72 dX7_garden_15 ?_
    refine wp_callS_3 kX7_43 dX7_garden_18 (c_X7_in (lo := 0) (hi := 9) (by decide) (by decide) ?_) ⟨Nat.le_of_ble_eq_true rfl, Nat.le_of_ble_eq_true rfl, Nat.le_of_ble_eq_true rfl⟩ (Nat.le_of_ble_eq_true rfl)
    refine wp_if_ne (tgt := 26) dX7_garden_21 rfl (fun c21 => ?_) (fun c21 => ?_)
    · refine wp_rload_0 dX7_garden_26 ?_
      refine wp_getR (t := 121) fX7_7 dX7_garden_27 kd_120 rfl (rf_120_0) ?_
      refine wp_iconst (v := 0) dX7_garden_30 rfl ?_
      refine wp_aldF (j := 0) dX7_garden_31 ar_121 (rfl) (by omega) ?_
      rw [hg]
      refine wp_istore_3 dX7_garden_32 (Nat.le_of_ble_eq_true rfl) rfl ?_
      refine wp_iload_3 dX7_garden_33 ?_
      refine wp_bipush (v := 6) dX7_garden_34 rfl ?_
      refine wp_icmp_ne (tgt := 42) dX7_garden_36 rfl (fun c36 => ?_) (fun c36 => ?_)
      · have hg6 : g < 6 := by
          rcases Nat.lt_or_ge g 6 with z | z
          · exact z
          · exact absurd (by rw [show g = 6 by omega]; rfl) c36
        refine wp_rload_0 dX7_garden_42 ?_
        refine wp_getR (t := 121) fX7_7 dX7_garden_43 kd_120 rfl (rf_120_0) ?_
        refine wp_iconst (v := 4) dX7_garden_46 rfl ?_
        refine wp_iload_3 dX7_garden_47 ?_
        refine wp_iadd dX7_garden_48 ?_
        refine wp_iload_1 dX7_garden_49 ?_
        refine wp_astF (j := (4 + g)) dX7_garden_50 ar_121 (nI_add _ _) (by omega) ?_
        refine wp_rload_0 dX7_garden_51 ?_
        refine wp_getR (t := 121) fX7_7 dX7_garden_52 kd_120 rfl (rf_120_0) ?_
        refine wp_bipush (v := 10) dX7_garden_55 rfl ?_
        refine wp_iload_3 dX7_garden_57 ?_
        refine wp_iadd dX7_garden_58 ?_
        refine wp_iload_2 dX7_garden_59 ?_
        refine wp_astF (j := (10 + g)) dX7_garden_60 ar_121 (nI_add _ _) (by omega) ?_
        refine wp_rload_0 dX7_garden_61 ?_
        refine wp_getR (t := 121) fX7_7 dX7_garden_62 kd_120 rfl (rf_120_0) ?_
        refine wp_iconst (v := 0) dX7_garden_65 rfl ?_
        refine wp_dup2_iv dX7_garden_66 ?_
        refine wp_aldF (j := 0) dX7_garden_67 ar_121 (rfl) (by omega) ?_
        rw [show upd (upd f (4 + g) kq) (10 + g) no 0 = nI g from by simp only [upd]; rw [if_neg (by omega), if_neg (by omega)]; exact hg]
        refine wp_iconst (v := 1) dX7_garden_68 rfl ?_
        refine wp_iadd dX7_garden_69 ?_
        refine wp_astF (j := 0) dX7_garden_70 ar_121 (rfl) (by omega) ?_
        refine wp_rload_0 dX7_garden_71 ?_
        refine wp_getR (t := 121) fX7_7 dX7_garden_72 kd_120 rfl (rf_120_0) ?_
        refine wp_bipush (v := 38) dX7_garden_75 rfl ?_
        refine wp_iconst (v := 0) dX7_garden_77 rfl ?_
        refine wp_astF (j := 38) dX7_garden_78 ar_121 (rfl) (by omega) ?_
        refine wp_iload_3 dX7_garden_79 ?_
        refine wp_iret dX7_garden_80 rfl rfl ?_
        first
          | (rw [tGdn, if_pos c9] at hQ; exact hQ)
          | (rw [tGdn, if_neg c9, if_pos c21] at hQ; exact hQ)
          | (rw [tGdn, if_neg c9, if_neg c21, if_pos c36] at hQ; exact hQ)
          | (rw [tGdn, if_neg c9, if_neg c21, if_neg c36] at hQ; exact hQ)
      · refine wp_bipush (v := (-3)) dX7_garden_39 rfl ?_
        refine wp_iret dX7_garden_41 rfl rfl ?_
        first
          | (rw [tGdn, if_pos c9] at hQ; exact hQ)
          | (rw [tGdn, if_neg c9, if_pos c21] at hQ; exact hQ)
          | (rw [tGdn, if_neg c9, if_neg c21, if_pos c36] at hQ; exact hQ)
          | (rw [tGdn, if_neg c9, if_neg c21, if_neg c36] at hQ; exact hQ)
    · refine wp_iconst (v := (-1)) dX7_garden_24 rfl ?_
      refine wp_iret dX7_garden_25 rfl rfl ?_
      first
        | (rw [tGdn, if_pos c9] at hQ; exact hQ)
        | (rw [tGdn, if_neg c9, if_pos c21] at hQ; exact hQ)
        | (rw [tGdn, if_neg c9, if_neg c21, if_pos c36] at hQ; exact hQ)
        | (rw [tGdn, if_neg c9, if_neg c21, if_neg c36] at hQ; exact hQ)
def tOf1 (f : Nat → Int32) (g z : Nat) (wh : Int32) : Int32 := if wh = 0 then f (4 + z) else if wh = 1 then f (10 + z) else if wh = 2 then f (16 + z) else if wh = 3 then (if nI z = 0 then 0 else gal (f (4 + z)) (f (10 + (z - 1))) (f (22 + (z - 1)))) else if wh = 4 then (if nI z = nI g - 1 then 0 else gal (f (4 + z)) (f (10 + (z + 1))) (f (22 + z))) else fdn f z (fup f (g - (z + 1)) (z + 1) 0)
def tOf (f : Nat → Int32) (g : Nat) (x wh : Int32) : Int32 := if wi x 0 (nI g - 1) = 0 then -1 else if wi wh 0 5 = 0 then -1 else tOf1 f g (cl x) wh
set_option maxRecDepth 100000 in
set_option maxHeartbeats 4000000 in
theorem c_X7_of {κ : KX} {M : MM} {Q : Option Value → va_W → Prop} {f : Nat → Int32} {g : Nat} {x wh : Int32} (hg : f 0 = nI g) (h6 : g ≤ 6) (hQ : Q (some (.int (tOf f g x wh))) (wM κ (rI M 121 f))) : CT κ (2, 0, 0) mX7_of [rv κ 120, .int x, .int wh] (wM κ (rI M 121 f)) Q := by
  refine CT.of okX7_of [some (rv κ 120), some (.int x), some (.int wh)] (Nat.le_of_ble_eq_true rfl) rfl ?_
  refine wp_rload_0 dX7_of_0 ?_
  refine wp_iload_1 dX7_of_1 ?_
  refine wp_callV_1 kX7_74 dX7_of_2 kd_120 rfl (c_X7_isGarden (M := rI M 121 f) hg ?_) ⟨Nat.le_of_ble_eq_true rfl, Nat.le_of_ble_eq_true rfl, Nat.le_of_ble_eq_true rfl⟩ (Nat.le_of_ble_eq_true rfl)
  refine wp_if_eq (tgt := 20) dX7_of_5 rfl (fun c5 => ?_) (fun c5 => ?_)
  · refine wp_iconst (v := (-1)) dX7_of_20 rfl ?_
    refine wp_iret dX7_of_21 rfl rfl ?_
    first
      | (rw [tOf, if_pos c5] at hQ; exact hQ)
      | (rw [if_pos c17] at hQ; exact hQ)
  · obtain ⟨z, hz1, rfl⟩ := upto_of c5 (by omega)
    rw [tOf, if_neg c5, cl_nI (by omega)] at hQ
    refine wp_iload_2 dX7_of_8 ?_
    refine wp_i2l dX7_of_9 ?_
    refine wp_lconst (v := 0) dX7_of_10 rfl ?_
    refine wp_ldc2 nX7_78 dX7_of_11 ?_
    refine wp_callS_3 kX7_43 dX7_of_14 (c_X7_in (lo := 0) (hi := 5) (by decide) (by decide) ?_) ⟨Nat.le_of_ble_eq_true rfl, Nat.le_of_ble_eq_true rfl, Nat.le_of_ble_eq_true rfl⟩ (Nat.le_of_ble_eq_true rfl)
    refine wp_if_ne (tgt := 22) dX7_of_17 rfl (fun c17 => ?_) (fun c17 => ?_)
    · refine wp_iload_2 dX7_of_22 ?_
      refine sw_0_4 wh (fun hzQ => ?_) (fun hzQ => ?_) (fun hzQ => ?_) (fun hzQ => ?_) (fun hzQ => ?_) (fun hzQ => ?_)
      · subst hzQ
        refine wp_switch dX7_of_23 56 rfl (fun _ => (Nat.le_of_ble_eq_true rfl)) ?_
        refine wp_rload_0 dX7_of_56 ?_
        refine wp_getR (t := 121) fX7_7 dX7_of_57 kd_120 rfl (rf_120_0) ?_
        refine wp_iconst (v := 4) dX7_of_60 rfl ?_
        refine wp_iload_1 dX7_of_61 ?_
        refine wp_iadd dX7_of_62 ?_
        refine wp_aldF (j := (4 + z)) dX7_of_63 ar_121 (nI_add _ _) (by omega) ?_
        refine wp_iret dX7_of_64 rfl rfl ?_
        rw [if_neg c17] at hQ
        simpa [tOf1] using hQ
      · subst hzQ
        refine wp_switch dX7_of_23 65 rfl (fun _ => (Nat.le_of_ble_eq_true rfl)) ?_
        refine wp_rload_0 dX7_of_65 ?_
        refine wp_getR (t := 121) fX7_7 dX7_of_66 kd_120 rfl (rf_120_0) ?_
        refine wp_bipush (v := 10) dX7_of_69 rfl ?_
        refine wp_iload_1 dX7_of_71 ?_
        refine wp_iadd dX7_of_72 ?_
        refine wp_aldF (j := (10 + z)) dX7_of_73 ar_121 (nI_add _ _) (by omega) ?_
        refine wp_iret dX7_of_74 rfl rfl ?_
        rw [if_neg c17] at hQ
        simpa [tOf1] using hQ
      · subst hzQ
        refine wp_switch dX7_of_23 75 rfl (fun _ => (Nat.le_of_ble_eq_true rfl)) ?_
        refine wp_rload_0 dX7_of_75 ?_
        refine wp_getR (t := 121) fX7_7 dX7_of_76 kd_120 rfl (rf_120_0) ?_
        refine wp_bipush (v := 16) dX7_of_79 rfl ?_
        refine wp_iload_1 dX7_of_81 ?_
        refine wp_iadd dX7_of_82 ?_
        refine wp_aldF (j := (16 + z)) dX7_of_83 ar_121 (nI_add _ _) (by omega) ?_
        refine wp_iret dX7_of_84 rfl rfl ?_
        rw [if_neg c17] at hQ
        simpa [tOf1] using hQ
      · subst hzQ
        refine wp_switch dX7_of_23 85 rfl (fun _ => (Nat.le_of_ble_eq_true rfl)) ?_
        refine wp_iload_1 dX7_of_85 ?_
        refine wp_if_ne (tgt := 93) dX7_of_86 rfl (fun c86 => ?_) (fun c86 => ?_)
        · have hz0 : 1 ≤ z := by
            rcases Nat.eq_zero_or_pos z with e | e
            · exact absurd (by rw [e]; rfl) c86
            · exact e
          refine wp_rload_0 dX7_of_93 ?_
          refine wp_getR (t := 121) fX7_7 dX7_of_94 kd_120 rfl (rf_120_0) ?_
          refine wp_iload_1 dX7_of_97 ?_
          refine wp_iload_1 dX7_of_98 ?_
          refine wp_iconst (v := 1) dX7_of_99 rfl ?_
          refine wp_isub dX7_of_100 ?_
          refine wp_iload_1 dX7_of_101 ?_
          refine wp_iconst (v := 1) dX7_of_102 rfl ?_
          refine wp_isub dX7_of_103 ?_
          rw [nI_sub1 hz0]
          refine wp_callS_4 kX7_47 dX7_of_104 (c_X7_galls ar_121 (by omega) (by omega) (by omega) ?_) ⟨Nat.le_of_ble_eq_true rfl, Nat.le_of_ble_eq_true rfl, Nat.le_of_ble_eq_true rfl⟩ (Nat.le_of_ble_eq_true rfl)
          refine wp_iret dX7_of_107 rfl rfl ?_
          rw [if_neg c17] at hQ
          simpa [tOf1, c86] using hQ
        · refine wp_iconst (v := 0) dX7_of_89 rfl ?_
          refine wp_goto (tgt := 107) dX7_of_90 rfl ?_
          refine wp_iret dX7_of_107 rfl rfl ?_
          rw [if_neg c17] at hQ
          simpa [tOf1, c86] using hQ
      · subst hzQ
        refine wp_switch dX7_of_23 108 rfl (fun _ => (Nat.le_of_ble_eq_true rfl)) ?_
        refine wp_iload_1 dX7_of_108 ?_
        refine wp_rload_0 dX7_of_109 ?_
        refine wp_getR (t := 121) fX7_7 dX7_of_110 kd_120 rfl (rf_120_0) ?_
        refine wp_iconst (v := 0) dX7_of_113 rfl ?_
        refine wp_aldF (j := 0) dX7_of_114 ar_121 (rfl) (by omega) ?_
        rw [hg]
        refine wp_iconst (v := 1) dX7_of_115 rfl ?_
        refine wp_isub dX7_of_116 ?_
        refine wp_icmp_ne (tgt := 124) dX7_of_117 rfl (fun c117 => ?_) (fun c117 => ?_)
        · have hz3 : z + 1 < g := by
            rcases Nat.lt_or_ge (z + 1) g with e | e
            · exact e
            · exact absurd (by rw [nI_sub1 (by omega), show g - 1 = z by omega]) c117
          refine wp_rload_0 dX7_of_124 ?_
          refine wp_getR (t := 121) fX7_7 dX7_of_125 kd_120 rfl (rf_120_0) ?_
          refine wp_iload_1 dX7_of_128 ?_
          refine wp_iload_1 dX7_of_129 ?_
          refine wp_iconst (v := 1) dX7_of_130 rfl ?_
          refine wp_iadd dX7_of_131 ?_
          refine wp_iload_1 dX7_of_132 ?_
          rw [show nI z + 1 = nI (z + 1) from nI_1 z]
          refine wp_callS_4 kX7_47 dX7_of_133 (c_X7_galls ar_121 (by omega) (by omega) (by omega) ?_) ⟨Nat.le_of_ble_eq_true rfl, Nat.le_of_ble_eq_true rfl, Nat.le_of_ble_eq_true rfl⟩ (Nat.le_of_ble_eq_true rfl)
          refine wp_iret dX7_of_136 rfl rfl ?_
          rw [if_neg c17] at hQ
          simpa [tOf1, c117] using hQ
        · refine wp_iconst (v := 0) dX7_of_120 rfl ?_
          refine wp_goto (tgt := 136) dX7_of_121 rfl ?_
          refine wp_iret dX7_of_136 rfl rfl ?_
          rw [if_neg c17] at hQ
          simpa [tOf1, c117] using hQ
      · refine wp_switch dX7_of_23 137 (by rw [if_pos hzQ]; rfl) (fun q => absurd hzQ q) ?_
        refine wp_rload_0 dX7_of_137 ?_
        refine wp_iload_1 dX7_of_138 ?_
        refine wp_callV_1 kX7_80 dX7_of_139 kd_120 rfl (c_X7_sees (M := rI M 121 f) hg h6 hz1 ?_) ⟨Nat.le_of_ble_eq_true rfl, Nat.le_of_ble_eq_true rfl, Nat.le_of_ble_eq_true rfl⟩ (Nat.le_of_ble_eq_true rfl)
        refine wp_iret dX7_of_142 rfl rfl ?_
        rw [if_neg c17] at hQ
        rw [rI_at]
        have e0 : ¬ wh = 0 := sw_default (k := 0) hzQ (by decide) (by decide) (by decide)
        have e1 : ¬ wh = 1 := sw_default (k := 1) hzQ (by decide) (by decide) (by decide)
        have e2 : ¬ wh = 2 := sw_default (k := 2) hzQ (by decide) (by decide) (by decide)
        have e3 : ¬ wh = 3 := sw_default (k := 3) hzQ (by decide) (by decide) (by decide)
        have e4 : ¬ wh = 4 := sw_default (k := 4) hzQ (by decide) (by decide) (by decide)
        simpa [tOf1, e0, e1, e2, e3, e4] using hQ
    · refine wp_iconst (v := (-1)) dX7_of_20 rfl ?_
      refine wp_iret dX7_of_21 rfl rfl ?_
      first
        | (rw [tOf, if_pos c5] at hQ; exact hQ)
        | (rw [if_pos c17] at hQ; exact hQ)
def tWl1 (f : Nat → Int32) (w : Nat) (wh : Int32) : Int32 := if wh = 0 then f (22 + w) else if wh = 1 then f (27 + w) else if wh = 2 then wkf f w + 100 else wtF f w
def tWl (f : Nat → Int32) (g : Nat) (x wh : Int32) : Int32 := if wi x 0 (nI (g - 1) - 1) = 0 then -1 else if wi wh 0 3 = 0 then -1 else tWl1 f (cl x) wh
set_option maxRecDepth 100000 in
set_option maxHeartbeats 4000000 in
theorem c_X7_wall {κ : KX} {M : MM} {Q : Option Value → va_W → Prop} {f : Nat → Int32} {g : Nat} {x wh : Int32} (hg : f 0 = nI g) (h6 : g ≤ 6) (hQ : Q (some (.int (tWl f g x wh))) (wM κ (rI M 121 f))) : CT κ (2, 0, 0) mX7_wall [rv κ 120, .int x, .int wh] (wM κ (rI M 121 f)) Q := by
  refine CT.of okX7_wall [some (rv κ 120), some (.int x), some (.int wh)] (Nat.le_of_ble_eq_true rfl) rfl ?_
  refine wp_rload_0 dX7_wall_0 ?_
  refine wp_iload_1 dX7_wall_1 ?_
  refine wp_callV_1 kX7_83 dX7_wall_2 kd_120 rfl (c_X7_isWall (M := rI M 121 f) hg h6 ?_) ⟨Nat.le_of_ble_eq_true rfl, Nat.le_of_ble_eq_true rfl, Nat.le_of_ble_eq_true rfl⟩ (Nat.le_of_ble_eq_true rfl)
  refine wp_if_eq (tgt := 20) dX7_wall_5 rfl (fun c5 => ?_) (fun c5 => ?_)
  · refine wp_iconst (v := (-1)) dX7_wall_20 rfl ?_
    refine wp_iret dX7_wall_21 rfl rfl ?_
    first
      | (rw [tWl, if_pos c5] at hQ; exact hQ)
      | (rw [if_pos c17] at hQ; exact hQ)
  · obtain ⟨w, hw, rfl⟩ := upto_of c5 (by omega)
    rw [tWl, if_neg c5, cl_nI (by omega)] at hQ
    refine wp_iload_2 dX7_wall_8 ?_
    refine wp_i2l dX7_wall_9 ?_
    refine wp_lconst (v := 0) dX7_wall_10 rfl ?_
    refine wp_ldc2 nX7_86 dX7_wall_11 ?_
    refine wp_callS_3 kX7_43 dX7_wall_14 (c_X7_in (lo := 0) (hi := 3) (by decide) (by decide) ?_) ⟨Nat.le_of_ble_eq_true rfl, Nat.le_of_ble_eq_true rfl, Nat.le_of_ble_eq_true rfl⟩ (Nat.le_of_ble_eq_true rfl)
    refine wp_if_ne (tgt := 22) dX7_wall_17 rfl (fun c17 => ?_) (fun c17 => ?_)
    · refine wp_iload_2 dX7_wall_22 ?_
      refine sw_0_2 wh (fun hzQ => ?_) (fun hzQ => ?_) (fun hzQ => ?_) (fun hzQ => ?_)
      · subst hzQ
        refine wp_switch dX7_wall_23 48 rfl (fun _ => (Nat.le_of_ble_eq_true rfl)) ?_
        refine wp_rload_0 dX7_wall_48 ?_
        refine wp_getR (t := 121) fX7_7 dX7_wall_49 kd_120 rfl (rf_120_0) ?_
        refine wp_bipush (v := 22) dX7_wall_52 rfl ?_
        refine wp_iload_1 dX7_wall_54 ?_
        refine wp_iadd dX7_wall_55 ?_
        refine wp_aldF (j := (22 + w)) dX7_wall_56 ar_121 (nI_add _ _) (by omega) ?_
        refine wp_iret dX7_wall_57 rfl rfl ?_
        rw [if_neg c17] at hQ
        simpa [tWl1] using hQ
      · subst hzQ
        refine wp_switch dX7_wall_23 58 rfl (fun _ => (Nat.le_of_ble_eq_true rfl)) ?_
        refine wp_rload_0 dX7_wall_58 ?_
        refine wp_getR (t := 121) fX7_7 dX7_wall_59 kd_120 rfl (rf_120_0) ?_
        refine wp_bipush (v := 27) dX7_wall_62 rfl ?_
        refine wp_iload_1 dX7_wall_64 ?_
        refine wp_iadd dX7_wall_65 ?_
        refine wp_aldF (j := (27 + w)) dX7_wall_66 ar_121 (nI_add _ _) (by omega) ?_
        refine wp_iret dX7_wall_67 rfl rfl ?_
        rw [if_neg c17] at hQ
        simpa [tWl1] using hQ
      · subst hzQ
        refine wp_switch dX7_wall_23 68 rfl (fun _ => (Nat.le_of_ble_eq_true rfl)) ?_
        refine wp_rload_0 dX7_wall_68 ?_
        refine wp_getR (t := 121) fX7_7 dX7_wall_69 kd_120 rfl (rf_120_0) ?_
        refine wp_iload_1 dX7_wall_72 ?_
        refine wp_callS_2 kX7_51 dX7_wall_73 (c_X7_grows ar_121 (by omega) ?_) ⟨Nat.le_of_ble_eq_true rfl, Nat.le_of_ble_eq_true rfl, Nat.le_of_ble_eq_true rfl⟩ (Nat.le_of_ble_eq_true rfl)
        refine wp_bipush (v := 100) dX7_wall_76 rfl ?_
        refine wp_iadd dX7_wall_78 ?_
        refine wp_iret dX7_wall_79 rfl rfl ?_
        rw [if_neg c17] at hQ
        simpa [tWl1] using hQ
      · refine wp_switch dX7_wall_23 80 (by rw [if_pos hzQ]; rfl) (fun q => absurd hzQ q) ?_
        refine wp_rload_0 dX7_wall_80 ?_
        refine wp_iload_1 dX7_wall_81 ?_
        refine wp_callV_1 kX7_67 dX7_wall_82 kd_120 rfl (c_X7_waits (M := rI M 121 f) (by omega) ?_) ⟨Nat.le_of_ble_eq_true rfl, Nat.le_of_ble_eq_true rfl, Nat.le_of_ble_eq_true rfl⟩ (Nat.le_of_ble_eq_true rfl)
        refine wp_iret dX7_wall_85 rfl rfl ?_
        rw [if_neg c17] at hQ
        rw [rI_at]
        have e0 : ¬ wh = 0 := sw_default (k := 0) hzQ (by decide) (by decide) (by decide)
        have e1 : ¬ wh = 1 := sw_default (k := 1) hzQ (by decide) (by decide) (by decide)
        have e2 : ¬ wh = 2 := sw_default (k := 2) hzQ (by decide) (by decide) (by decide)
        simpa [tWl1, e0, e1, e2] using hQ
    · refine wp_iconst (v := (-1)) dX7_wall_20 rfl ?_
      refine wp_iret dX7_wall_21 rfl rfl ?_
      first
        | (rw [tWl, if_pos c5] at hQ; exact hQ)
        | (rw [if_pos c17] at hQ; exact hQ)
set_option maxRecDepth 100000 in
set_option maxHeartbeats 4000000 in
theorem c_X7_becomes {κ : KX} {M : MM} {Q : Option Value → va_W → Prop} {f : Nat → Int32} {a : Nat} {v : Int32} (ha : a < 223) (hQ : Q (some (.int (f a))) (wM κ (rI M 121 (upd f a v)))) : CT κ (0, 0, 0) mX7_becomes [rv κ 120, .int (nI a), .int v] (wM κ (rI M 121 f)) Q := by
  refine CT.of okX7_becomes [some (rv κ 120), some (.int (nI a)), some (.int v), none] (Nat.le_of_ble_eq_true rfl) rfl ?_
  refine wp_rload_0 dX7_becomes_0 ?_
  refine wp_getR (t := 121) fX7_7 dX7_becomes_1 kd_120 rfl (rf_120_0) ?_
  refine wp_iload_1 dX7_becomes_4 ?_
  refine wp_aldF (j := a) dX7_becomes_5 ar_121 (rfl) (by omega) ?_
  refine wp_istore_3 dX7_becomes_6 (Nat.le_of_ble_eq_true rfl) rfl ?_
  refine wp_rload_0 dX7_becomes_7 ?_
  refine wp_getR (t := 121) fX7_7 dX7_becomes_8 kd_120 rfl (rf_120_0) ?_
  refine wp_iload_1 dX7_becomes_11 ?_
  refine wp_iload_2 dX7_becomes_12 ?_
  refine wp_astF (j := a) dX7_becomes_13 ar_121 (rfl) (by omega) ?_
  refine wp_iload_3 dX7_becomes_14 ?_
  refine wp_iret dX7_becomes_15 rfl rfl ?_
  exact hQ
def tNs (f : Nat → Int32) (g : Nat) (x v : Int32) : (Nat → Int32) × Int32 := if wi x 0 (nI g - 1) = 0 then (f, -1) else if wi v 0 9 = 0 then (f, -1) else (upd f (10 + cl x) v, f (10 + cl x))
set_option maxRecDepth 100000 in
set_option maxHeartbeats 4000000 in
theorem c_X7_noise {κ : KX} {M : MM} {Q : Option Value → va_W → Prop} {f : Nat → Int32} {g : Nat} {x v : Int32} (hg : f 0 = nI g) (h6 : g ≤ 6) (hQ : Q (some (.int (tNs f g x v).2)) (wM κ (rI M 121 (tNs f g x v).1))) : CT κ (2, 0, 0) mX7_noise [rv κ 120, .int x, .int v] (wM κ (rI M 121 f)) Q := by
  refine CT.of okX7_noise [some (rv κ 120), some (.int x), some (.int v)] (Nat.le_of_ble_eq_true rfl) rfl ?_
  refine wp_rload_0 dX7_noise_0 ?_
  refine wp_iload_1 dX7_noise_1 ?_
  refine wp_callV_1 kX7_74 dX7_noise_2 kd_120 rfl (c_X7_isGarden (M := rI M 121 f) hg ?_) ⟨Nat.le_of_ble_eq_true rfl, Nat.le_of_ble_eq_true rfl, Nat.le_of_ble_eq_true rfl⟩ (Nat.le_of_ble_eq_true rfl)
  refine wp_if_eq (tgt := 32) dX7_noise_5 rfl (fun c5 => ?_) (fun c5 => ?_)
  · refine wp_iconst (v := (-1)) dX7_noise_32 rfl ?_
    refine wp_iret dX7_noise_33 rfl rfl ?_
    first
      | (rw [tNs, if_pos c5] at hQ; exact hQ)
      | (rw [if_pos c17] at hQ; exact hQ)
      | (rw [if_neg c17] at hQ; exact hQ)
  · obtain ⟨z, hz1, rfl⟩ := upto_of c5 (by omega)
    rw [tNs, if_neg c5, cl_nI (by omega)] at hQ
    refine wp_iload_2 dX7_noise_8 ?_
    refine wp_i2l dX7_noise_9 ?_
    refine wp_lconst (v := 0) dX7_noise_10 rfl ?_
    refine wp_ldc2 nX7_72 dX7_noise_11 ?_
    refine wp_callS_3 kX7_43 dX7_noise_14 (c_X7_in (lo := 0) (hi := 9) (by decide) (by decide) ?_) ⟨Nat.le_of_ble_eq_true rfl, Nat.le_of_ble_eq_true rfl, Nat.le_of_ble_eq_true rfl⟩ (Nat.le_of_ble_eq_true rfl)
    refine wp_if_eq (tgt := 32) dX7_noise_17 rfl (fun c17 => ?_) (fun c17 => ?_)
    · refine wp_iconst (v := (-1)) dX7_noise_32 rfl ?_
      refine wp_iret dX7_noise_33 rfl rfl ?_
      first
        | (rw [tNs, if_pos c5] at hQ; exact hQ)
        | (rw [if_pos c17] at hQ; exact hQ)
        | (rw [if_neg c17] at hQ; exact hQ)
    · refine wp_rload_0 dX7_noise_20 ?_
      refine wp_bipush (v := 10) dX7_noise_21 rfl ?_
      refine wp_iload_1 dX7_noise_23 ?_
      refine wp_iadd dX7_noise_24 ?_
      refine wp_iload_2 dX7_noise_25 ?_
      rw [show (10 : Int32) + nI z = nI (10 + z) from nI_add 10 z]
      refine wp_callV_2 kX7_88 dX7_noise_26 kd_120 rfl (c_X7_becomes (by omega) ?_) ⟨Nat.le_of_ble_eq_true rfl, Nat.le_of_ble_eq_true rfl, Nat.le_of_ble_eq_true rfl⟩ (Nat.le_of_ble_eq_true rfl)
      refine wp_goto (tgt := 33) dX7_noise_29 rfl ?_
      refine wp_iret dX7_noise_33 rfl rfl ?_
      first
        | (rw [tNs, if_pos c5] at hQ; exact hQ)
        | (rw [if_pos c17] at hQ; exact hQ)
        | (rw [if_neg c17] at hQ; exact hQ)
def tRl (f : Nat → Int32) (x v : Int32) : (Nat → Int32) × Int32 := if ¬ x = 0 ∨ wi v 2 52 = 0 then (if ¬ x = 1 ∨ wi v 0 9 = 0 then (f, -1) else (upd f 2 v, f 2)) else (upd f 1 v, f 1)
set_option maxRecDepth 100000 in
set_option maxHeartbeats 4000000 in
theorem c_X7_rule {κ : KX} {M : MM} {Q : Option Value → va_W → Prop} {f : Nat → Int32} {x v : Int32}  (hQ : Q (some (.int (tRl f x v).2)) (wM κ (rI M 121 (tRl f x v).1))) : CT κ (1, 0, 0) mX7_rule [rv κ 120, .int x, .int v] (wM κ (rI M 121 f)) Q := by
  refine CT.of okX7_rule [some (rv κ 120), some (.int x), some (.int v), none] (Nat.le_of_ble_eq_true rfl) rfl ?_
  refine wp_iload_1 dX7_rule_0 ?_
  refine wp_if_ne (tgt := 18) dX7_rule_1 rfl (fun c1 => ?_) (fun c1 => ?_)
  · refine wp_iload_1 dX7_rule_18 ?_
    refine wp_iconst (v := 1) dX7_rule_19 rfl ?_
    refine wp_icmp_ne (tgt := 39) dX7_rule_20 rfl (fun c20 => ?_) (fun c20 => ?_)
    · refine wp_iconst (v := 0) dX7_rule_39 rfl ?_
      refine wp_istore_3 dX7_rule_40 (Nat.le_of_ble_eq_true rfl) rfl ?_
      refine wp_iload_3 dX7_rule_41 ?_
      refine wp_if_eq (tgt := 56) dX7_rule_42 rfl (fun _ => ?_) (fun q => absurd rfl q)
      refine wp_iconst (v := (-1)) dX7_rule_56 rfl ?_
      refine wp_iret dX7_rule_57 rfl rfl ?_
      first
        | (rw [tRl, if_pos (Or.inl c1), if_pos (Or.inl c20)] at hQ; exact hQ)
        | (rw [tRl, if_pos (Or.inl c1), if_pos (Or.inr c32)] at hQ; exact hQ)
        | (rw [tRl, if_pos (Or.inr c15), if_pos (Or.inl c20)] at hQ; exact hQ)
        | (rw [tRl, if_pos (Or.inr c15), if_pos (Or.inr c32)] at hQ; exact hQ)
    · refine wp_iload_2 dX7_rule_23 ?_
      refine wp_i2l dX7_rule_24 ?_
      refine wp_lconst (v := 0) dX7_rule_25 rfl ?_
      refine wp_ldc2 nX7_72 dX7_rule_26 ?_
      refine wp_callS_3 kX7_43 dX7_rule_29 (c_X7_in (lo := 0) (hi := 9) (by decide) (by decide) ?_) ⟨Nat.le_of_ble_eq_true rfl, Nat.le_of_ble_eq_true rfl, Nat.le_of_ble_eq_true rfl⟩ (Nat.le_of_ble_eq_true rfl)
      refine wp_if_eq (tgt := 39) dX7_rule_32 rfl (fun c32 => ?_) (fun c32 => ?_)
      · refine wp_iconst (v := 0) dX7_rule_39 rfl ?_
        refine wp_istore_3 dX7_rule_40 (Nat.le_of_ble_eq_true rfl) rfl ?_
        refine wp_iload_3 dX7_rule_41 ?_
        refine wp_if_eq (tgt := 56) dX7_rule_42 rfl (fun _ => ?_) (fun q => absurd rfl q)
        refine wp_iconst (v := (-1)) dX7_rule_56 rfl ?_
        refine wp_iret dX7_rule_57 rfl rfl ?_
        first
          | (rw [tRl, if_pos (Or.inl c1), if_pos (Or.inl c20)] at hQ; exact hQ)
          | (rw [tRl, if_pos (Or.inl c1), if_pos (Or.inr c32)] at hQ; exact hQ)
          | (rw [tRl, if_pos (Or.inr c15), if_pos (Or.inl c20)] at hQ; exact hQ)
          | (rw [tRl, if_pos (Or.inr c15), if_pos (Or.inr c32)] at hQ; exact hQ)
      · refine wp_iconst (v := 1) dX7_rule_35 rfl ?_
        refine wp_goto (tgt := 40) dX7_rule_36 rfl ?_
        refine wp_istore_3 dX7_rule_40 (Nat.le_of_ble_eq_true rfl) rfl ?_
        refine wp_iload_3 dX7_rule_41 ?_
        refine wp_if_eq (tgt := 56) dX7_rule_42 rfl (fun q => absurd q (by decide)) (fun _ => ?_)
        refine wp_rload_0 dX7_rule_45 ?_
        refine wp_iconst (v := 1) dX7_rule_46 rfl ?_
        refine wp_iload_1 dX7_rule_47 ?_
        refine wp_iadd dX7_rule_48 ?_
        refine wp_iload_2 dX7_rule_49 ?_
        first
          | exact absurd (c1.symm.trans c20) (by decide)
          | (rw [show (1 : Int32) + x = nI 1 from by rw [c1]; rfl]
             refine wp_callV_2 kX7_88 dX7_rule_50 kd_120 rfl (c_X7_becomes (a := 1) (by decide) ?_) ⟨Nat.le_of_ble_eq_true rfl, Nat.le_of_ble_eq_true rfl, Nat.le_of_ble_eq_true rfl⟩ (Nat.le_of_ble_eq_true rfl)
             refine wp_goto (tgt := 57) dX7_rule_53 rfl ?_
             refine wp_iret dX7_rule_57 rfl rfl ?_
             rw [tRl, if_neg (fun q => q.elim (fun q => q c1) c15)] at hQ
             exact hQ)
          | (rw [show (1 : Int32) + x = nI 2 from by rw [c20]; rfl]
             refine wp_callV_2 kX7_88 dX7_rule_50 kd_120 rfl (c_X7_becomes (a := 2) (by decide) ?_) ⟨Nat.le_of_ble_eq_true rfl, Nat.le_of_ble_eq_true rfl, Nat.le_of_ble_eq_true rfl⟩ (Nat.le_of_ble_eq_true rfl)
             refine wp_goto (tgt := 57) dX7_rule_53 rfl ?_
             refine wp_iret dX7_rule_57 rfl rfl ?_
             first
               | (rw [tRl, if_pos (Or.inl c1), if_neg (fun q => q.elim (fun q => q c20) c32)] at hQ; exact hQ)
               | (rw [tRl, if_pos (Or.inr c15), if_neg (fun q => q.elim (fun q => q c20) c32)] at hQ; exact hQ))
  · refine wp_iload_2 dX7_rule_4 ?_
    refine wp_i2l dX7_rule_5 ?_
    refine wp_ldc2 nX7_92 dX7_rule_6 ?_
    refine wp_ldc2 nX7_94 dX7_rule_9 ?_
    refine wp_callS_3 kX7_43 dX7_rule_12 (c_X7_in (lo := 2) (hi := 52) (by decide) (by decide) ?_) ⟨Nat.le_of_ble_eq_true rfl, Nat.le_of_ble_eq_true rfl, Nat.le_of_ble_eq_true rfl⟩ (Nat.le_of_ble_eq_true rfl)
    refine wp_if_ne (tgt := 35) dX7_rule_15 rfl (fun c15 => ?_) (fun c15 => ?_)
    · refine wp_iconst (v := 1) dX7_rule_35 rfl ?_
      refine wp_goto (tgt := 40) dX7_rule_36 rfl ?_
      refine wp_istore_3 dX7_rule_40 (Nat.le_of_ble_eq_true rfl) rfl ?_
      refine wp_iload_3 dX7_rule_41 ?_
      refine wp_if_eq (tgt := 56) dX7_rule_42 rfl (fun q => absurd q (by decide)) (fun _ => ?_)
      refine wp_rload_0 dX7_rule_45 ?_
      refine wp_iconst (v := 1) dX7_rule_46 rfl ?_
      refine wp_iload_1 dX7_rule_47 ?_
      refine wp_iadd dX7_rule_48 ?_
      refine wp_iload_2 dX7_rule_49 ?_
      first
        | exact absurd (c1.symm.trans c20) (by decide)
        | (rw [show (1 : Int32) + x = nI 1 from by rw [c1]; rfl]
           refine wp_callV_2 kX7_88 dX7_rule_50 kd_120 rfl (c_X7_becomes (a := 1) (by decide) ?_) ⟨Nat.le_of_ble_eq_true rfl, Nat.le_of_ble_eq_true rfl, Nat.le_of_ble_eq_true rfl⟩ (Nat.le_of_ble_eq_true rfl)
           refine wp_goto (tgt := 57) dX7_rule_53 rfl ?_
           refine wp_iret dX7_rule_57 rfl rfl ?_
           rw [tRl, if_neg (fun q => q.elim (fun q => q c1) c15)] at hQ
           exact hQ)
        | (rw [show (1 : Int32) + x = nI 2 from by rw [c20]; rfl]
           refine wp_callV_2 kX7_88 dX7_rule_50 kd_120 rfl (c_X7_becomes (a := 2) (by decide) ?_) ⟨Nat.le_of_ble_eq_true rfl, Nat.le_of_ble_eq_true rfl, Nat.le_of_ble_eq_true rfl⟩ (Nat.le_of_ble_eq_true rfl)
           refine wp_goto (tgt := 57) dX7_rule_53 rfl ?_
           refine wp_iret dX7_rule_57 rfl rfl ?_
           first
             | (rw [tRl, if_pos (Or.inl c1), if_neg (fun q => q.elim (fun q => q c20) c32)] at hQ; exact hQ)
             | (rw [tRl, if_pos (Or.inr c15), if_neg (fun q => q.elim (fun q => q c20) c32)] at hQ; exact hQ))
    · refine wp_iload_1 dX7_rule_18 ?_
      refine wp_iconst (v := 1) dX7_rule_19 rfl ?_
      refine wp_icmp_ne (tgt := 39) dX7_rule_20 rfl (fun c20 => ?_) (fun c20 => ?_)
      · refine wp_iconst (v := 0) dX7_rule_39 rfl ?_
        refine wp_istore_3 dX7_rule_40 (Nat.le_of_ble_eq_true rfl) rfl ?_
        refine wp_iload_3 dX7_rule_41 ?_
        refine wp_if_eq (tgt := 56) dX7_rule_42 rfl (fun _ => ?_) (fun q => absurd rfl q)
        refine wp_iconst (v := (-1)) dX7_rule_56 rfl ?_
        refine wp_iret dX7_rule_57 rfl rfl ?_
        first
          | (rw [tRl, if_pos (Or.inl c1), if_pos (Or.inl c20)] at hQ; exact hQ)
          | (rw [tRl, if_pos (Or.inl c1), if_pos (Or.inr c32)] at hQ; exact hQ)
          | (rw [tRl, if_pos (Or.inr c15), if_pos (Or.inl c20)] at hQ; exact hQ)
          | (rw [tRl, if_pos (Or.inr c15), if_pos (Or.inr c32)] at hQ; exact hQ)
      · refine wp_iload_2 dX7_rule_23 ?_
        refine wp_i2l dX7_rule_24 ?_
        refine wp_lconst (v := 0) dX7_rule_25 rfl ?_
        refine wp_ldc2 nX7_72 dX7_rule_26 ?_
        refine wp_callS_3 kX7_43 dX7_rule_29 (c_X7_in (lo := 0) (hi := 9) (by decide) (by decide) ?_) ⟨Nat.le_of_ble_eq_true rfl, Nat.le_of_ble_eq_true rfl, Nat.le_of_ble_eq_true rfl⟩ (Nat.le_of_ble_eq_true rfl)
        refine wp_if_eq (tgt := 39) dX7_rule_32 rfl (fun c32 => ?_) (fun c32 => ?_)
        · refine wp_iconst (v := 0) dX7_rule_39 rfl ?_
          refine wp_istore_3 dX7_rule_40 (Nat.le_of_ble_eq_true rfl) rfl ?_
          refine wp_iload_3 dX7_rule_41 ?_
          refine wp_if_eq (tgt := 56) dX7_rule_42 rfl (fun _ => ?_) (fun q => absurd rfl q)
          refine wp_iconst (v := (-1)) dX7_rule_56 rfl ?_
          refine wp_iret dX7_rule_57 rfl rfl ?_
          first
            | (rw [tRl, if_pos (Or.inl c1), if_pos (Or.inl c20)] at hQ; exact hQ)
            | (rw [tRl, if_pos (Or.inl c1), if_pos (Or.inr c32)] at hQ; exact hQ)
            | (rw [tRl, if_pos (Or.inr c15), if_pos (Or.inl c20)] at hQ; exact hQ)
            | (rw [tRl, if_pos (Or.inr c15), if_pos (Or.inr c32)] at hQ; exact hQ)
        · refine wp_iconst (v := 1) dX7_rule_35 rfl ?_
          refine wp_goto (tgt := 40) dX7_rule_36 rfl ?_
          refine wp_istore_3 dX7_rule_40 (Nat.le_of_ble_eq_true rfl) rfl ?_
          refine wp_iload_3 dX7_rule_41 ?_
          refine wp_if_eq (tgt := 56) dX7_rule_42 rfl (fun q => absurd q (by decide)) (fun _ => ?_)
          refine wp_rload_0 dX7_rule_45 ?_
          refine wp_iconst (v := 1) dX7_rule_46 rfl ?_
          refine wp_iload_1 dX7_rule_47 ?_
          refine wp_iadd dX7_rule_48 ?_
          refine wp_iload_2 dX7_rule_49 ?_
          first
            | exact absurd (c1.symm.trans c20) (by decide)
            | (rw [show (1 : Int32) + x = nI 1 from by rw [c1]; rfl]
               refine wp_callV_2 kX7_88 dX7_rule_50 kd_120 rfl (c_X7_becomes (a := 1) (by decide) ?_) ⟨Nat.le_of_ble_eq_true rfl, Nat.le_of_ble_eq_true rfl, Nat.le_of_ble_eq_true rfl⟩ (Nat.le_of_ble_eq_true rfl)
               refine wp_goto (tgt := 57) dX7_rule_53 rfl ?_
               refine wp_iret dX7_rule_57 rfl rfl ?_
               rw [tRl, if_neg (fun q => q.elim (fun q => q c1) c15)] at hQ
               exact hQ)
            | (rw [show (1 : Int32) + x = nI 2 from by rw [c20]; rfl]
               refine wp_callV_2 kX7_88 dX7_rule_50 kd_120 rfl (c_X7_becomes (a := 2) (by decide) ?_) ⟨Nat.le_of_ble_eq_true rfl, Nat.le_of_ble_eq_true rfl, Nat.le_of_ble_eq_true rfl⟩ (Nat.le_of_ble_eq_true rfl)
               refine wp_goto (tgt := 57) dX7_rule_53 rfl ?_
               refine wp_iret dX7_rule_57 rfl rfl ?_
               first
                 | (rw [tRl, if_pos (Or.inl c1), if_neg (fun q => q.elim (fun q => q c20) c32)] at hQ; exact hQ)
                 | (rw [tRl, if_pos (Or.inr c15), if_neg (fun q => q.elim (fun q => q c20) c32)] at hQ; exact hQ))
def tSd (f : Nat → Int32) (x : Int32) : (Nat → Int32) × Int32 := if 0 ≤ x then (upd f 37 x, f 37) else (f, -1)
set_option maxRecDepth 100000 in
set_option maxHeartbeats 4000000 in
theorem c_X7_seed {κ : KX} {M : MM} {Q : Option Value → va_W → Prop} {f : Nat → Int32} {x : Int32}  (hQ : Q (some (.int (tSd f x).2)) (wM κ (rI M 121 (tSd f x).1))) : CT κ (1, 0, 0) mX7_seed [rv κ 120, .int x] (wM κ (rI M 121 f)) Q := by
  refine CT.of okX7_seed [some (rv κ 120), some (.int x)] (Nat.le_of_ble_eq_true rfl) rfl ?_
  refine wp_iload_1 dX7_seed_0 ?_
  refine wp_if_ge (tgt := 8) dX7_seed_1 rfl (fun c1 => ?_) (fun c1 => ?_)
  · refine wp_rload_0 dX7_seed_8 ?_
    refine wp_bipush (v := 37) dX7_seed_9 rfl ?_
    refine wp_iload_1 dX7_seed_11 ?_
    refine wp_callV_2 kX7_88 dX7_seed_12 kd_120 rfl (c_X7_becomes (a := 37) (by decide) ?_) ⟨Nat.le_of_ble_eq_true rfl, Nat.le_of_ble_eq_true rfl, Nat.le_of_ble_eq_true rfl⟩ (Nat.le_of_ble_eq_true rfl)
    refine wp_iret dX7_seed_15 rfl rfl ?_
    first
      | (rw [tSd, if_pos c1] at hQ; exact hQ)
      | (rw [tSd, if_neg c1] at hQ; exact hQ)
  · refine wp_iconst (v := (-1)) dX7_seed_4 rfl ?_
    refine wp_goto (tgt := 15) dX7_seed_5 rfl ?_
    refine wp_iret dX7_seed_15 rfl rfl ?_
    first
      | (rw [tSd, if_pos c1] at hQ; exact hQ)
      | (rw [tSd, if_neg c1] at hQ; exact hQ)
def tCn (f : Nat → Int32) (g : Nat) (x : Int32) : Int32 := if x = 0 then nI g else if x = 1 then f 3 else if x = 2 then f 1 else if x = 3 then f 2 else if x = 4 then smF f 22 5 else if x = 5 then smF f 27 5 else if x = 6 then smF f 16 6 else if x = 7 then utl f else if x = 8 then msF f (g - 1) else if x = 9 then f 38 else -1
set_option maxRecDepth 100000 in
set_option maxHeartbeats 4000000 in
theorem c_X7_count {κ : KX} {M : MM} {Q : Option Value → va_W → Prop} {f : Nat → Int32} {g : Nat} {x : Int32} (hg : f 0 = nI g) (h6 : g ≤ 6) (hy : 0 < f 1) (hQ : Q (some (.int (tCn f g x))) (wM κ (rI M 121 f))) : CT κ (2, 0, 0) mX7_count [rv κ 120, .int x] (wM κ (rI M 121 f)) Q := by
  refine CT.of okX7_count [some (rv κ 120), some (.int x)] (Nat.le_of_ble_eq_true rfl) rfl ?_
  refine wp_iload_1 dX7_count_0 ?_
  refine sw_0_9 x (fun hzQ => ?_) (fun hzQ => ?_) (fun hzQ => ?_) (fun hzQ => ?_) (fun hzQ => ?_) (fun hzQ => ?_) (fun hzQ => ?_) (fun hzQ => ?_) (fun hzQ => ?_) (fun hzQ => ?_) (fun hzQ => ?_)
  · subst hzQ
    refine wp_switch dX7_count_1 56 rfl (fun _ => (Nat.le_of_ble_eq_true rfl)) ?_
    refine wp_rload_0 dX7_count_56 ?_
    refine wp_getR (t := 121) fX7_7 dX7_count_57 kd_120 rfl (rf_120_0) ?_
    refine wp_iconst (v := 0) dX7_count_60 rfl ?_
    refine wp_aldF (j := 0) dX7_count_61 ar_121 (rfl) (by omega) ?_
    rw [hg]
    refine wp_iret dX7_count_62 rfl rfl ?_
    simpa [tCn] using hQ
  · subst hzQ
    refine wp_switch dX7_count_1 63 rfl (fun _ => (Nat.le_of_ble_eq_true rfl)) ?_
    refine wp_rload_0 dX7_count_63 ?_
    refine wp_getR (t := 121) fX7_7 dX7_count_64 kd_120 rfl (rf_120_0) ?_
    refine wp_iconst (v := 3) dX7_count_67 rfl ?_
    refine wp_aldF (j := 3) dX7_count_68 ar_121 (rfl) (by omega) ?_
    refine wp_iret dX7_count_69 rfl rfl ?_
    simpa [tCn] using hQ
  · subst hzQ
    refine wp_switch dX7_count_1 70 rfl (fun _ => (Nat.le_of_ble_eq_true rfl)) ?_
    refine wp_rload_0 dX7_count_70 ?_
    refine wp_getR (t := 121) fX7_7 dX7_count_71 kd_120 rfl (rf_120_0) ?_
    refine wp_iconst (v := 1) dX7_count_74 rfl ?_
    refine wp_aldF (j := 1) dX7_count_75 ar_121 (rfl) (by omega) ?_
    refine wp_iret dX7_count_76 rfl rfl ?_
    simpa [tCn] using hQ
  · subst hzQ
    refine wp_switch dX7_count_1 77 rfl (fun _ => (Nat.le_of_ble_eq_true rfl)) ?_
    refine wp_rload_0 dX7_count_77 ?_
    refine wp_getR (t := 121) fX7_7 dX7_count_78 kd_120 rfl (rf_120_0) ?_
    refine wp_iconst (v := 2) dX7_count_81 rfl ?_
    refine wp_aldF (j := 2) dX7_count_82 ar_121 (rfl) (by omega) ?_
    refine wp_iret dX7_count_83 rfl rfl ?_
    simpa [tCn] using hQ
  · subst hzQ
    refine wp_switch dX7_count_1 84 rfl (fun _ => (Nat.le_of_ble_eq_true rfl)) ?_
    refine wp_rload_0 dX7_count_84 ?_
    refine wp_getR (t := 121) fX7_7 dX7_count_85 kd_120 rfl (rf_120_0) ?_
    refine wp_callS_1 kX7_143 dX7_count_88 (c_X7_coursesOf ar_121 ?_) ⟨Nat.le_of_ble_eq_true rfl, Nat.le_of_ble_eq_true rfl, Nat.le_of_ble_eq_true rfl⟩ (Nat.le_of_ble_eq_true rfl)
    refine wp_iret dX7_count_91 rfl rfl ?_
    simpa [tCn] using hQ
  · subst hzQ
    refine wp_switch dX7_count_1 92 rfl (fun _ => (Nat.le_of_ble_eq_true rfl)) ?_
    refine wp_rload_0 dX7_count_92 ?_
    refine wp_getR (t := 121) fX7_7 dX7_count_93 kd_120 rfl (rf_120_0) ?_
    refine wp_bipush (v := 27) dX7_count_96 rfl ?_
    refine wp_iconst (v := 5) dX7_count_98 rfl ?_
    refine wp_callS_3 kX7_63 dX7_count_99 (c_X7_sumOf (a := 27) (m := 5) ar_121 (by decide) ?_) ⟨Nat.le_of_ble_eq_true rfl, Nat.le_of_ble_eq_true rfl, Nat.le_of_ble_eq_true rfl⟩ (Nat.le_of_ble_eq_true rfl)
    refine wp_iret dX7_count_102 rfl rfl ?_
    simpa [tCn] using hQ
  · subst hzQ
    refine wp_switch dX7_count_1 103 rfl (fun _ => (Nat.le_of_ble_eq_true rfl)) ?_
    refine wp_rload_0 dX7_count_103 ?_
    refine wp_getR (t := 121) fX7_7 dX7_count_104 kd_120 rfl (rf_120_0) ?_
    refine wp_bipush (v := 16) dX7_count_107 rfl ?_
    refine wp_bipush (v := 6) dX7_count_109 rfl ?_
    refine wp_callS_3 kX7_63 dX7_count_111 (c_X7_sumOf (a := 16) (m := 6) ar_121 (by decide) ?_) ⟨Nat.le_of_ble_eq_true rfl, Nat.le_of_ble_eq_true rfl, Nat.le_of_ble_eq_true rfl⟩ (Nat.le_of_ble_eq_true rfl)
    refine wp_iret dX7_count_114 rfl rfl ?_
    simpa [tCn] using hQ
  · subst hzQ
    refine wp_switch dX7_count_1 115 rfl (fun _ => (Nat.le_of_ble_eq_true rfl)) ?_
    refine wp_rload_0 dX7_count_115 ?_
    refine wp_callV_0 kX7_147 dX7_count_116 kd_120 rfl (c_X7_until (M := rI M 121 f) hy ?_) ⟨Nat.le_of_ble_eq_true rfl, Nat.le_of_ble_eq_true rfl, Nat.le_of_ble_eq_true rfl⟩ (Nat.le_of_ble_eq_true rfl)
    refine wp_iret dX7_count_119 rfl rfl ?_
    rw [rI_at]
    simpa [tCn] using hQ
  · subst hzQ
    refine wp_switch dX7_count_1 120 rfl (fun _ => (Nat.le_of_ble_eq_true rfl)) ?_
    refine wp_rload_0 dX7_count_120 ?_
    refine wp_callV_0 kX7_150 dX7_count_121 kd_120 rfl (c_X7_maySorry (M := rI M 121 f) hg h6 ?_) ⟨Nat.le_of_ble_eq_true rfl, Nat.le_of_ble_eq_true rfl, Nat.le_of_ble_eq_true rfl⟩ (Nat.le_of_ble_eq_true rfl)
    refine wp_iret dX7_count_124 rfl rfl ?_
    rw [rI_at]
    simpa [tCn] using hQ
  · subst hzQ
    refine wp_switch dX7_count_1 125 rfl (fun _ => (Nat.le_of_ble_eq_true rfl)) ?_
    refine wp_rload_0 dX7_count_125 ?_
    refine wp_getR (t := 121) fX7_7 dX7_count_126 kd_120 rfl (rf_120_0) ?_
    refine wp_bipush (v := 38) dX7_count_129 rfl ?_
    refine wp_aldF (j := 38) dX7_count_131 ar_121 (rfl) (by omega) ?_
    refine wp_iret dX7_count_132 rfl rfl ?_
    simpa [tCn] using hQ
  · refine wp_switch dX7_count_1 133 (by rw [if_pos hzQ]; rfl) (fun q => absurd hzQ q) ?_
    refine wp_iconst (v := (-1)) dX7_count_133 rfl ?_
    refine wp_iret dX7_count_134 rfl rfl ?_
    have e0 : ¬ x = 0 := sw_default (k := 0) hzQ (by decide) (by decide) (by decide)
    have e1 : ¬ x = 1 := sw_default (k := 1) hzQ (by decide) (by decide) (by decide)
    have e2 : ¬ x = 2 := sw_default (k := 2) hzQ (by decide) (by decide) (by decide)
    have e3 : ¬ x = 3 := sw_default (k := 3) hzQ (by decide) (by decide) (by decide)
    have e4 : ¬ x = 4 := sw_default (k := 4) hzQ (by decide) (by decide) (by decide)
    have e5 : ¬ x = 5 := sw_default (k := 5) hzQ (by decide) (by decide) (by decide)
    have e6 : ¬ x = 6 := sw_default (k := 6) hzQ (by decide) (by decide) (by decide)
    have e7 : ¬ x = 7 := sw_default (k := 7) hzQ (by decide) (by decide) (by decide)
    have e8 : ¬ x = 8 := sw_default (k := 8) hzQ (by decide) (by decide) (by decide)
    have e9 : ¬ x = 9 := sw_default (k := 9) hzQ (by decide) (by decide) (by decide)
    simpa [tCn, e0, e1, e2, e3, e4, e5, e6, e7, e8, e9] using hQ
