/-! the calls of the class -/
def cl (x : Int32) : Nat := x.toNatClampNeg
theorem cl_nI {z : Nat} (h : z < 1000) : cl (nI z) = z := nI_clamp (by omega)
theorem wi_ne {x lo hi : Int32} (h : ¬ wi x lo hi = 0) : ¬ x < lo ∧ ¬ hi < x := by
  unfold wi at h
  split at h
  · exact absurd rfl h
  · split at h
    · exact absurd rfl h
    · exact ⟨‹_›, ‹_›⟩
theorem rng_of {x : Int32} {a b : Nat} (h : ¬ wi x (nI a) (nI b) = 0) (hab : a ≤ b) (hb : b < 100000) : ∃ k, a ≤ k ∧ k ≤ b ∧ x = nI k := by
  obtain ⟨h1, h2⟩ := wi_ne h
  rw [i32_lt, nI_toInt (by omega)] at h1
  rw [i32_lt, nI_toInt (by omega)] at h2
  refine ⟨x.toInt.toNat, by omega, by omega, ?_⟩
  rw [i32_eq, nI_toInt (by omega)]
  omega
theorem sub1_toInt {a : Nat} (h : a < 1000) : (nI a - 1).toInt = (a : Int) - 1 := pk_sub_toInt (b := 1) (by omega) (by decide)
theorem upto_of {x : Int32} {a : Nat} (h : ¬ wi x 0 (nI a - 1) = 0) (ha : a < 1000) : ∃ k, k < a ∧ x = nI k := by
  obtain ⟨h1, h2⟩ := wi_ne h
  rw [i32_lt] at h1
  rw [i32_lt, sub1_toInt ha] at h2
  have h0 : (0 : Int32).toInt = 0 := rfl
  refine ⟨x.toInt.toNat, by omega, ?_⟩
  rw [i32_eq, nI_toInt (by omega)]
  omega
theorem ltN {a b : Nat} (h : nI a < nI b) (ha : a < 1000) (hb : b < 100000) : a < b := (nI_ltI (by omega) (by omega)).mp h
theorem min_nI {a b : Nat} (ha : a < 1000) (hb : b < 1000) : (if nI b < nI a then nI b else nI a) = nI (min a b) := by
  by_cases h : b < a
  · rw [if_pos (nI_lt h (by omega)), Nat.min_eq_right (by omega)]
  · rw [if_neg (nI_nlt (by omega) (by omega)), Nat.min_eq_left (by omega)]
def gby (M : MM) (a b : Nat) : Int32 := gal (M.1 2 a) (M.1 3 b) (M.1 5 (min a b))
set_option maxRecDepth 100000 in
set_option maxHeartbeats 4000000 in
theorem c_X4_galledBy {κ : KX} {M : MM} {Q : Option Value → va_W → Prop} {a b : Nat} (ha : a < 6) (hb : b < 6) (hm : min a b < 5) (hQ : Q (some (.int (gby M a b))) (wM κ (M))) : CT κ (1, 0, 0) mX4_galledBy [rv κ 1, .int (nI a), .int (nI b)] (wM κ M) Q := by
  refine CT.of okX4_galledBy [some (rv κ 1), some (.int (nI a)), some (.int (nI b))] (Nat.le_of_ble_eq_true rfl) rfl ?_
  refine wp_rload_0 dX4_galledBy_0 ?_
  refine wp_getR (t := 2) fX4_9 dX4_galledBy_1 kd_1 rfl (rf_1_0) ?_
  refine wp_iload_1 dX4_galledBy_4 ?_
  refine wp_ald (j := a) dX4_galledBy_5 ar_2 (rfl) (by omega) ?_
  refine wp_rload_0 dX4_galledBy_6 ?_
  refine wp_getR (t := 3) fX4_15 dX4_galledBy_7 kd_1 rfl (rf_1_1) ?_
  refine wp_iload_2 dX4_galledBy_10 ?_
  refine wp_ald (j := b) dX4_galledBy_11 ar_3 (rfl) (by omega) ?_
  refine wp_rload_0 dX4_galledBy_12 ?_
  refine wp_getR (t := 4) fX4_31 dX4_galledBy_13 kd_1 rfl (rf_1_5) ?_
  refine wp_getR (t := 5) fX4_93 dX4_galledBy_16 kd_4 rfl (rf_4_0) ?_
  refine wp_iload_1 dX4_galledBy_19 ?_
  refine wp_iload_2 dX4_galledBy_20 ?_
  refine wp_min kX4_96 dX4_galledBy_21 ⟨Nat.le_of_ble_eq_true rfl, Nat.le_of_ble_eq_true rfl, Nat.le_of_ble_eq_true rfl⟩ (Nat.le_of_ble_eq_true rfl) ?_
  refine wp_ald (j := (min a b)) dX4_galledBy_24 ar_5 (min_nI (by omega) (by omega)) hm ?_
  refine wp_callS_3 kX4_101 dX4_galledBy_25 (c_X4_galls ?_) ⟨Nat.le_of_ble_eq_true rfl, Nat.le_of_ble_eq_true rfl, Nat.le_of_ble_eq_true rfl⟩ (Nat.le_of_ble_eq_true rfl)
  refine wp_iret dX4_galledBy_28 rfl rfl ?_
  exact hQ
def sGdn (M : MM) (g : Nat) (kq no : Int32) : MM × Int32 := if wi kq 0 4 = 0 then (M, -1) else if wi no 0 9 = 0 then (M, -1) else if nI g < 6 then (setl g M kq no, nI g) else (M, -3)
set_option maxRecDepth 100000 in
set_option maxHeartbeats 4000000 in
theorem c_X6_garden {κ : KX} {M : MM} {Q : Option Value → va_W → Prop} {g : Nat} {kq no : Int32} (hg : M.1 1 2 = nI g) (h6 : g ≤ 6) (hQ : Q (some (.int (sGdn M g kq no).2)) (wM κ ((sGdn M g kq no).1))) : CT κ (2, 0, 0) mX6_garden [rv κ 0, .int kq, .int no] (wM κ M) Q := by
  refine CT.of okX6_garden [some (rv κ 0), some (.int kq), some (.int no)] (Nat.le_of_ble_eq_true rfl) rfl ?_
  refine wp_iload_1 dX6_garden_0 ?_
  refine wp_iconst (v := 0) dX6_garden_1 rfl ?_
  refine wp_iconst (v := 4) dX6_garden_2 rfl ?_
  refine wp_callS_3 kX6_46 dX6_garden_3 (c_X6_within ?_) ⟨Nat.le_of_ble_eq_true rfl, Nat.le_of_ble_eq_true rfl, Nat.le_of_ble_eq_true rfl⟩ (Nat.le_of_ble_eq_true rfl)
  refine wp_if_eq (tgt := 19) dX6_garden_6 rfl (fun c6 => ?_) (fun c6 => ?_)
  · refine wp_iconst (v := (-1)) dX6_garden_19 rfl ?_
    refine wp_iret dX6_garden_20 rfl rfl ?_
    first
      | (rw [sGdn, if_pos c6] at hQ; exact hQ)
      | (rw [sGdn, if_neg c6, if_pos c16] at hQ; exact hQ)
      | (rw [sGdn, if_neg c6, if_neg c16, if_pos c30] at hQ; exact hQ)
      | (rw [sGdn, if_neg c6, if_neg c16, if_neg c30] at hQ; exact hQ)
  · refine wp_iload_2 dX6_garden_9 ?_
    refine wp_iconst (v := 0) dX6_garden_10 rfl ?_
    refine wp_bipush (v := 9) dX6_garden_11 rfl ?_
    refine wp_callS_3 kX6_46 dX6_garden_13 (c_X6_within ?_) ⟨Nat.le_of_ble_eq_true rfl, Nat.le_of_ble_eq_true rfl, Nat.le_of_ble_eq_true rfl⟩ (Nat.le_of_ble_eq_true rfl)
    refine wp_if_ne (tgt := 21) dX6_garden_16 rfl (fun c16 => ?_) (fun c16 => ?_)
    · refine wp_rload_0 dX6_garden_21 ?_
      refine wp_getR (t := 1) fX6_10 dX6_garden_22 kd_0 rfl (rf_0_0) ?_
      refine wp_getI fX6_50 dX6_garden_25 kd_1 rfl ?_
      rw [hg]
      refine wp_bipush (v := 6) dX6_garden_28 rfl ?_
      refine wp_icmp_lt (tgt := 36) dX6_garden_30 rfl (fun c30 => ?_) (fun c30 => ?_)
      · refine wp_rload_0 dX6_garden_36 ?_
        refine wp_getR (t := 1) fX6_10 dX6_garden_37 kd_0 rfl (rf_0_0) ?_
        refine wp_iload_1 dX6_garden_40 ?_
        refine wp_iload_2 dX6_garden_41 ?_
        refine wp_callV_2 kX6_54 dX6_garden_42 kd_1 rfl (c_X4_settle hg (ltN (b := 6) c30 (by omega) (by decide)) ?_) ⟨Nat.le_of_ble_eq_true rfl, Nat.le_of_ble_eq_true rfl, Nat.le_of_ble_eq_true rfl⟩ (Nat.le_of_ble_eq_true rfl)
        refine wp_iret dX6_garden_45 rfl rfl ?_
        first
          | (rw [sGdn, if_pos c6] at hQ; exact hQ)
          | (rw [sGdn, if_neg c6, if_pos c16] at hQ; exact hQ)
          | (rw [sGdn, if_neg c6, if_neg c16, if_pos c30] at hQ; exact hQ)
          | (rw [sGdn, if_neg c6, if_neg c16, if_neg c30] at hQ; exact hQ)
      · refine wp_bipush (v := (-3)) dX6_garden_33 rfl ?_
        refine wp_iret dX6_garden_35 rfl rfl ?_
        first
          | (rw [sGdn, if_pos c6] at hQ; exact hQ)
          | (rw [sGdn, if_neg c6, if_pos c16] at hQ; exact hQ)
          | (rw [sGdn, if_neg c6, if_neg c16, if_pos c30] at hQ; exact hQ)
          | (rw [sGdn, if_neg c6, if_neg c16, if_neg c30] at hQ; exact hQ)
    · refine wp_iconst (v := (-1)) dX6_garden_19 rfl ?_
      refine wp_iret dX6_garden_20 rfl rfl ?_
      first
        | (rw [sGdn, if_pos c6] at hQ; exact hQ)
        | (rw [sGdn, if_neg c6, if_pos c16] at hQ; exact hQ)
        | (rw [sGdn, if_neg c6, if_neg c16, if_pos c30] at hQ; exact hQ)
        | (rw [sGdn, if_neg c6, if_neg c16, if_neg c30] at hQ; exact hQ)
def sOf1 (M : MM) (g z : Nat) (x wh : Int32) : Int32 := if wh = 0 then M.1 2 z else if wh = 1 then M.1 3 z else if wh = 2 then M.1 8 z else if wh = 3 then (if wi (x - 1) 0 (nI g - 1) = 0 then 0 else gby M z (z - 1)) else if wh = 4 then (if wi (x + 1) 0 (nI g - 1) = 0 then 0 else gby M z (z + 1)) else if wh = 5 then sup M (g - (z + 1)) (z + 1) (sdn M z 0) else -1
def sOf (M : MM) (g : Nat) (x wh : Int32) : Int32 := if wi x 0 (nI g - 1) = 0 then -1 else sOf1 M g (cl x) x wh
set_option maxRecDepth 100000 in
set_option maxHeartbeats 4000000 in
theorem c_X6_of {κ : KX} {M : MM} {Q : Option Value → va_W → Prop} {g : Nat} {x wh : Int32} (hg : M.1 1 2 = nI g) (h6 : g ≤ 6) (hQ : Q (some (.int (sOf M g x wh))) (wM κ (M))) : CT κ (2, 0, 0) mX6_of [rv κ 0, .int x, .int wh] (wM κ M) Q := by
  refine CT.of okX6_of [some (rv κ 0), some (.int x), some (.int wh)] (Nat.le_of_ble_eq_true rfl) rfl ?_
  refine wp_rload_0 dX6_of_0 ?_
  refine wp_getR (t := 1) fX6_10 dX6_of_1 kd_0 rfl (rf_0_0) ?_
  refine wp_iload_1 dX6_of_4 ?_
  refine wp_callV_1 kX6_58 dX6_of_5 kd_1 rfl (c_X4_isGarden ?_) ⟨Nat.le_of_ble_eq_true rfl, Nat.le_of_ble_eq_true rfl, Nat.le_of_ble_eq_true rfl⟩ (Nat.le_of_ble_eq_true rfl)
  rw [hg]
  refine wp_if_ne (tgt := 13) dX6_of_8 rfl (fun c8 => ?_) (fun c8 => ?_)
  · obtain ⟨z, hz1, rfl⟩ := upto_of c8 (by omega)
    rw [sOf, if_neg c8, cl_nI (by omega)] at hQ
    refine wp_iload_2 dX6_of_13 ?_
    refine sw_0_5 wh (fun hzQ => ?_) (fun hzQ => ?_) (fun hzQ => ?_) (fun hzQ => ?_) (fun hzQ => ?_) (fun hzQ => ?_) (fun hzQ => ?_)
    · subst hzQ
      refine wp_switch dX6_of_14 52 rfl (fun _ => (Nat.le_of_ble_eq_true rfl)) ?_
      refine wp_rload_0 dX6_of_52 ?_
      refine wp_getR (t := 1) fX6_10 dX6_of_53 kd_0 rfl (rf_0_0) ?_
      refine wp_getR (t := 2) fX6_62 dX6_of_56 kd_1 rfl (rf_1_0) ?_
      refine wp_iload_1 dX6_of_59 ?_
      refine wp_ald (j := z) dX6_of_60 ar_2 (rfl) (by omega) ?_
      refine wp_iret dX6_of_61 rfl rfl ?_
      simpa [sOf1] using hQ
    · subst hzQ
      refine wp_switch dX6_of_14 62 rfl (fun _ => (Nat.le_of_ble_eq_true rfl)) ?_
      refine wp_rload_0 dX6_of_62 ?_
      refine wp_getR (t := 1) fX6_10 dX6_of_63 kd_0 rfl (rf_0_0) ?_
      refine wp_getR (t := 3) fX6_66 dX6_of_66 kd_1 rfl (rf_1_1) ?_
      refine wp_iload_1 dX6_of_69 ?_
      refine wp_ald (j := z) dX6_of_70 ar_3 (rfl) (by omega) ?_
      refine wp_iret dX6_of_71 rfl rfl ?_
      simpa [sOf1] using hQ
    · subst hzQ
      refine wp_switch dX6_of_14 72 rfl (fun _ => (Nat.le_of_ble_eq_true rfl)) ?_
      refine wp_rload_0 dX6_of_72 ?_
      refine wp_getR (t := 1) fX6_10 dX6_of_73 kd_0 rfl (rf_0_0) ?_
      refine wp_getR (t := 4) fX6_69 dX6_of_76 kd_1 rfl (rf_1_5) ?_
      refine wp_getR (t := 8) fX6_73 dX6_of_79 kd_4 rfl (rf_4_3) ?_
      refine wp_iload_1 dX6_of_82 ?_
      refine wp_ald (j := z) dX6_of_83 ar_8 (rfl) (by omega) ?_
      refine wp_iret dX6_of_84 rfl rfl ?_
      simpa [sOf1] using hQ
    · subst hzQ
      refine wp_switch dX6_of_14 85 rfl (fun _ => (Nat.le_of_ble_eq_true rfl)) ?_
      refine wp_rload_0 dX6_of_85 ?_
      refine wp_getR (t := 1) fX6_10 dX6_of_86 kd_0 rfl (rf_0_0) ?_
      refine wp_iload_1 dX6_of_89 ?_
      refine wp_iconst (v := 1) dX6_of_90 rfl ?_
      refine wp_isub dX6_of_91 ?_
      refine wp_callV_1 kX6_58 dX6_of_92 kd_1 rfl (c_X4_isGarden ?_) ⟨Nat.le_of_ble_eq_true rfl, Nat.le_of_ble_eq_true rfl, Nat.le_of_ble_eq_true rfl⟩ (Nat.le_of_ble_eq_true rfl)
      rw [hg]
      refine wp_if_eq (tgt := 112) dX6_of_95 rfl (fun c95 => ?_) (fun c95 => ?_)
      · refine wp_iconst (v := 0) dX6_of_112 rfl ?_
        refine wp_iret dX6_of_113 rfl rfl ?_
        simpa [sOf1, c95] using hQ
      · have hz0 : 1 ≤ z := by
          rcases Nat.eq_zero_or_pos z with e | e
          · subst e
            exact absurd (by decide) (wi_ne c95).1
          · exact e
        refine wp_rload_0 dX6_of_98 ?_
        refine wp_getR (t := 1) fX6_10 dX6_of_99 kd_0 rfl (rf_0_0) ?_
        refine wp_iload_1 dX6_of_102 ?_
        refine wp_iload_1 dX6_of_103 ?_
        refine wp_iconst (v := 1) dX6_of_104 rfl ?_
        refine wp_isub dX6_of_105 ?_
        rw [nI_sub1 hz0]
        refine wp_callV_2 kX6_78 dX6_of_106 kd_1 rfl (c_X4_galledBy (by omega) (by omega) (by omega) ?_) ⟨Nat.le_of_ble_eq_true rfl, Nat.le_of_ble_eq_true rfl, Nat.le_of_ble_eq_true rfl⟩ (Nat.le_of_ble_eq_true rfl)
        refine wp_goto (tgt := 113) dX6_of_109 rfl ?_
        refine wp_iret dX6_of_113 rfl rfl ?_
        simpa [sOf1, c95] using hQ
    · subst hzQ
      refine wp_switch dX6_of_14 114 rfl (fun _ => (Nat.le_of_ble_eq_true rfl)) ?_
      refine wp_rload_0 dX6_of_114 ?_
      refine wp_getR (t := 1) fX6_10 dX6_of_115 kd_0 rfl (rf_0_0) ?_
      refine wp_iload_1 dX6_of_118 ?_
      refine wp_iconst (v := 1) dX6_of_119 rfl ?_
      refine wp_iadd dX6_of_120 ?_
      refine wp_callV_1 kX6_58 dX6_of_121 kd_1 rfl (c_X4_isGarden ?_) ⟨Nat.le_of_ble_eq_true rfl, Nat.le_of_ble_eq_true rfl, Nat.le_of_ble_eq_true rfl⟩ (Nat.le_of_ble_eq_true rfl)
      rw [hg]
      refine wp_if_eq (tgt := 141) dX6_of_124 rfl (fun c124 => ?_) (fun c124 => ?_)
      · refine wp_iconst (v := 0) dX6_of_141 rfl ?_
        refine wp_iret dX6_of_142 rfl rfl ?_
        simpa [sOf1, c124] using hQ
      · obtain ⟨z2, hz2, ez2⟩ := upto_of c124 (by omega)
        have hz3 : z + 1 < g := by
          have e3 := (nI_eq (a := z + 1) (b := z2) (by omega) (by omega)).mp (by rw [← nI_1]; exact ez2)
          omega
        refine wp_rload_0 dX6_of_127 ?_
        refine wp_getR (t := 1) fX6_10 dX6_of_128 kd_0 rfl (rf_0_0) ?_
        refine wp_iload_1 dX6_of_131 ?_
        refine wp_iload_1 dX6_of_132 ?_
        refine wp_iconst (v := 1) dX6_of_133 rfl ?_
        refine wp_iadd dX6_of_134 ?_
        rw [show nI z + 1 = nI (z + 1) from nI_1 z]
        refine wp_callV_2 kX6_78 dX6_of_135 kd_1 rfl (c_X4_galledBy (by omega) (by omega) (by omega) ?_) ⟨Nat.le_of_ble_eq_true rfl, Nat.le_of_ble_eq_true rfl, Nat.le_of_ble_eq_true rfl⟩ (Nat.le_of_ble_eq_true rfl)
        refine wp_goto (tgt := 142) dX6_of_138 rfl ?_
        refine wp_iret dX6_of_142 rfl rfl ?_
        simpa [sOf1, c124] using hQ
    · subst hzQ
      refine wp_switch dX6_of_14 143 rfl (fun _ => (Nat.le_of_ble_eq_true rfl)) ?_
      refine wp_rload_0 dX6_of_143 ?_
      refine wp_getR (t := 1) fX6_10 dX6_of_144 kd_0 rfl (rf_0_0) ?_
      refine wp_iload_1 dX6_of_147 ?_
      refine wp_callV_1 kX6_81 dX6_of_148 kd_1 rfl (c_X4_inSight hg h6 hz1 ?_) ⟨Nat.le_of_ble_eq_true rfl, Nat.le_of_ble_eq_true rfl, Nat.le_of_ble_eq_true rfl⟩ (Nat.le_of_ble_eq_true rfl)
      refine wp_iret dX6_of_151 rfl rfl ?_
      simpa [sOf1] using hQ
    · refine wp_switch dX6_of_14 152 (by rw [if_pos hzQ]; rfl) (fun q => absurd hzQ q) ?_
      refine wp_iconst (v := (-1)) dX6_of_152 rfl ?_
      refine wp_iret dX6_of_153 rfl rfl ?_
      have e0 : ¬ wh = 0 := sw_default (k := 0) hzQ (by decide) (by decide) (by decide)
      have e1 : ¬ wh = 1 := sw_default (k := 1) hzQ (by decide) (by decide) (by decide)
      have e2 : ¬ wh = 2 := sw_default (k := 2) hzQ (by decide) (by decide) (by decide)
      have e3 : ¬ wh = 3 := sw_default (k := 3) hzQ (by decide) (by decide) (by decide)
      have e4 : ¬ wh = 4 := sw_default (k := 4) hzQ (by decide) (by decide) (by decide)
      have e5 : ¬ wh = 5 := sw_default (k := 5) hzQ (by decide) (by decide) (by decide)
      simpa [sOf1, e0, e1, e2, e3, e4, e5] using hQ
  · refine wp_iconst (v := (-1)) dX6_of_11 rfl ?_
    refine wp_iret dX6_of_12 rfl rfl ?_
    rw [sOf, if_pos c8] at hQ
    exact hQ
def sWl1 (M : MM) (w : Nat) (wh : Int32) : Int32 := if wh = 0 then M.1 5 w else if wh = 1 then M.1 6 w else if wh = 2 then 100 + wkl M w (M.1 5 w) else if wh = 3 then wta M w else -1
def sWl (M : MM) (g : Nat) (x wh : Int32) : Int32 := if wi x 0 (nI (g - 1) - 1) = 0 then -1 else sWl1 M (cl x) wh
set_option maxRecDepth 100000 in
set_option maxHeartbeats 4000000 in
theorem c_X6_wall {κ : KX} {M : MM} {Q : Option Value → va_W → Prop} {g : Nat} {x wh : Int32} (hg : M.1 1 2 = nI g) (h6 : g ≤ 6) (hQ : Q (some (.int (sWl M g x wh))) (wM κ (M))) : CT κ (2, 0, 0) mX6_wall [rv κ 0, .int x, .int wh] (wM κ M) Q := by
  refine CT.of okX6_wall [some (rv κ 0), some (.int x), some (.int wh)] (Nat.le_of_ble_eq_true rfl) rfl ?_
  refine wp_rload_0 dX6_wall_0 ?_
  refine wp_getR (t := 1) fX6_10 dX6_wall_1 kd_0 rfl (rf_0_0) ?_
  refine wp_iload_1 dX6_wall_4 ?_
  refine wp_callV_1 kX6_85 dX6_wall_5 kd_1 rfl (c_X4_isWall hg h6 ?_) ⟨Nat.le_of_ble_eq_true rfl, Nat.le_of_ble_eq_true rfl, Nat.le_of_ble_eq_true rfl⟩ (Nat.le_of_ble_eq_true rfl)
  refine wp_if_ne (tgt := 13) dX6_wall_8 rfl (fun c8 => ?_) (fun c8 => ?_)
  · obtain ⟨w, hw, rfl⟩ := upto_of c8 (by omega)
    rw [sWl, if_neg c8, cl_nI (by omega)] at hQ
    refine wp_iload_2 dX6_wall_13 ?_
    refine sw_0_3 wh (fun hzQ => ?_) (fun hzQ => ?_) (fun hzQ => ?_) (fun hzQ => ?_) (fun hzQ => ?_)
    · subst hzQ
      refine wp_switch dX6_wall_14 44 rfl (fun _ => (Nat.le_of_ble_eq_true rfl)) ?_
      refine wp_rload_0 dX6_wall_44 ?_
      refine wp_getR (t := 1) fX6_10 dX6_wall_45 kd_0 rfl (rf_0_0) ?_
      refine wp_getR (t := 4) fX6_69 dX6_wall_48 kd_1 rfl (rf_1_5) ?_
      refine wp_getR (t := 5) fX6_88 dX6_wall_51 kd_4 rfl (rf_4_0) ?_
      refine wp_iload_1 dX6_wall_54 ?_
      refine wp_ald (j := w) dX6_wall_55 ar_5 (rfl) (by omega) ?_
      refine wp_iret dX6_wall_56 rfl rfl ?_
      simpa [sWl1] using hQ
    · subst hzQ
      refine wp_switch dX6_wall_14 57 rfl (fun _ => (Nat.le_of_ble_eq_true rfl)) ?_
      refine wp_rload_0 dX6_wall_57 ?_
      refine wp_getR (t := 1) fX6_10 dX6_wall_58 kd_0 rfl (rf_0_0) ?_
      refine wp_getR (t := 4) fX6_69 dX6_wall_61 kd_1 rfl (rf_1_5) ?_
      refine wp_getR (t := 6) fX6_91 dX6_wall_64 kd_4 rfl (rf_4_1) ?_
      refine wp_iload_1 dX6_wall_67 ?_
      refine wp_ald (j := w) dX6_wall_68 ar_6 (rfl) (by omega) ?_
      refine wp_iret dX6_wall_69 rfl rfl ?_
      simpa [sWl1] using hQ
    · subst hzQ
      refine wp_switch dX6_wall_14 70 rfl (fun _ => (Nat.le_of_ble_eq_true rfl)) ?_
      refine wp_bipush (v := 100) dX6_wall_70 rfl ?_
      refine wp_rload_0 dX6_wall_72 ?_
      refine wp_getR (t := 1) fX6_10 dX6_wall_73 kd_0 rfl (rf_0_0) ?_
      refine wp_iload_1 dX6_wall_76 ?_
      refine wp_rload_0 dX6_wall_77 ?_
      refine wp_getR (t := 1) fX6_10 dX6_wall_78 kd_0 rfl (rf_0_0) ?_
      refine wp_getR (t := 4) fX6_69 dX6_wall_81 kd_1 rfl (rf_1_5) ?_
      refine wp_getR (t := 5) fX6_88 dX6_wall_84 kd_4 rfl (rf_4_0) ?_
      refine wp_iload_1 dX6_wall_87 ?_
      refine wp_ald (j := w) dX6_wall_88 ar_5 (rfl) (by omega) ?_
      refine wp_callV_2 kX6_94 dX6_wall_89 kd_1 rfl (c_X4_weekly (by omega) ?_) ⟨Nat.le_of_ble_eq_true rfl, Nat.le_of_ble_eq_true rfl, Nat.le_of_ble_eq_true rfl⟩ (Nat.le_of_ble_eq_true rfl)
      refine wp_iadd dX6_wall_92 ?_
      refine wp_iret dX6_wall_93 rfl rfl ?_
      simpa [sWl1] using hQ
    · subst hzQ
      refine wp_switch dX6_wall_14 94 rfl (fun _ => (Nat.le_of_ble_eq_true rfl)) ?_
      refine wp_rload_0 dX6_wall_94 ?_
      refine wp_getR (t := 1) fX6_10 dX6_wall_95 kd_0 rfl (rf_0_0) ?_
      refine wp_getR (t := 4) fX6_69 dX6_wall_98 kd_1 rfl (rf_1_5) ?_
      refine wp_iload_1 dX6_wall_101 ?_
      refine wp_callV_1 kX6_97 dX6_wall_102 kd_4 rfl (c_X3_weeksToApology (by omega) ?_) ⟨Nat.le_of_ble_eq_true rfl, Nat.le_of_ble_eq_true rfl, Nat.le_of_ble_eq_true rfl⟩ (Nat.le_of_ble_eq_true rfl)
      refine wp_iret dX6_wall_105 rfl rfl ?_
      simpa [sWl1] using hQ
    · refine wp_switch dX6_wall_14 106 (by rw [if_pos hzQ]; rfl) (fun q => absurd hzQ q) ?_
      refine wp_iconst (v := (-1)) dX6_wall_106 rfl ?_
      refine wp_iret dX6_wall_107 rfl rfl ?_
      have e0 : ¬ wh = 0 := sw_default (k := 0) hzQ (by decide) (by decide) (by decide)
      have e1 : ¬ wh = 1 := sw_default (k := 1) hzQ (by decide) (by decide) (by decide)
      have e2 : ¬ wh = 2 := sw_default (k := 2) hzQ (by decide) (by decide) (by decide)
      have e3 : ¬ wh = 3 := sw_default (k := 3) hzQ (by decide) (by decide) (by decide)
      simpa [sWl1, e0, e1, e2, e3] using hQ
  · refine wp_iconst (v := (-1)) dX6_wall_11 rfl ?_
    refine wp_iret dX6_wall_12 rfl rfl ?_
    rw [sWl, if_pos c8] at hQ
    exact hQ
def sNs (M : MM) (g : Nat) (x v : Int32) : MM × Int32 := if wi x 0 (nI g - 1) = 0 then (M, -1) else if wi v 0 9 = 0 then (M, -1) else (sI M 3 (cl x) v, M.1 3 (cl x))
set_option maxRecDepth 100000 in
set_option maxHeartbeats 4000000 in
theorem c_X6_noise {κ : KX} {M : MM} {Q : Option Value → va_W → Prop} {g : Nat} {x v : Int32} (hg : M.1 1 2 = nI g) (h6 : g ≤ 6) (hQ : Q (some (.int (sNs M g x v).2)) (wM κ ((sNs M g x v).1))) : CT κ (2, 0, 0) mX6_noise [rv κ 0, .int x, .int v] (wM κ M) Q := by
  refine CT.of okX6_noise [some (rv κ 0), some (.int x), some (.int v), none] (Nat.le_of_ble_eq_true rfl) rfl ?_
  refine wp_rload_0 dX6_noise_0 ?_
  refine wp_getR (t := 1) fX6_10 dX6_noise_1 kd_0 rfl (rf_0_0) ?_
  refine wp_iload_1 dX6_noise_4 ?_
  refine wp_callV_1 kX6_58 dX6_noise_5 kd_1 rfl (c_X4_isGarden ?_) ⟨Nat.le_of_ble_eq_true rfl, Nat.le_of_ble_eq_true rfl, Nat.le_of_ble_eq_true rfl⟩ (Nat.le_of_ble_eq_true rfl)
  rw [hg]
  refine wp_if_eq (tgt := 21) dX6_noise_8 rfl (fun c8 => ?_) (fun c8 => ?_)
  · refine wp_iconst (v := (-1)) dX6_noise_21 rfl ?_
    refine wp_iret dX6_noise_22 rfl rfl ?_
    first
      | (rw [sNs, if_pos c8] at hQ; exact hQ)
      | (rw [if_pos c18] at hQ; exact hQ)
  · obtain ⟨z, hz1, rfl⟩ := upto_of c8 (by omega)
    rw [sNs, if_neg c8, cl_nI (by omega)] at hQ
    refine wp_iload_2 dX6_noise_11 ?_
    refine wp_iconst (v := 0) dX6_noise_12 rfl ?_
    refine wp_bipush (v := 9) dX6_noise_13 rfl ?_
    refine wp_callS_3 kX6_46 dX6_noise_15 (c_X6_within ?_) ⟨Nat.le_of_ble_eq_true rfl, Nat.le_of_ble_eq_true rfl, Nat.le_of_ble_eq_true rfl⟩ (Nat.le_of_ble_eq_true rfl)
    refine wp_if_ne (tgt := 23) dX6_noise_18 rfl (fun c18 => ?_) (fun c18 => ?_)
    · refine wp_rload_0 dX6_noise_23 ?_
      refine wp_getR (t := 1) fX6_10 dX6_noise_24 kd_0 rfl (rf_0_0) ?_
      refine wp_getR (t := 3) fX6_66 dX6_noise_27 kd_1 rfl (rf_1_1) ?_
      refine wp_iload_1 dX6_noise_30 ?_
      refine wp_ald (j := z) dX6_noise_31 ar_3 (rfl) (by omega) ?_
      refine wp_istore_3 dX6_noise_32 (Nat.le_of_ble_eq_true rfl) rfl ?_
      refine wp_rload_0 dX6_noise_33 ?_
      refine wp_getR (t := 1) fX6_10 dX6_noise_34 kd_0 rfl (rf_0_0) ?_
      refine wp_getR (t := 3) fX6_66 dX6_noise_37 kd_1 rfl (rf_1_1) ?_
      refine wp_iload_1 dX6_noise_40 ?_
      refine wp_iload_2 dX6_noise_41 ?_
      refine wp_ast (j := z) dX6_noise_42 ar_3 (rfl) (by omega) ?_
      refine wp_iload_3 dX6_noise_43 ?_
      refine wp_iret dX6_noise_44 rfl rfl ?_
      rw [if_neg c18] at hQ
      exact hQ
    · refine wp_iconst (v := (-1)) dX6_noise_21 rfl ?_
      refine wp_iret dX6_noise_22 rfl rfl ?_
      first
        | (rw [sNs, if_pos c8] at hQ; exact hQ)
        | (rw [if_pos c18] at hQ; exact hQ)
def sRl (M : MM) (x v : Int32) : MM × Int32 := if ¬ x = 0 ∨ wi v 2 52 = 0 then (if ¬ x = 1 ∨ wi v 0 9 = 0 then (M, -1) else (sI M 1 4 v, M.1 1 4)) else (sI M 1 3 v, M.1 1 3)
set_option maxRecDepth 100000 in
set_option maxHeartbeats 4000000 in
theorem c_X6_rule {κ : KX} {M : MM} {Q : Option Value → va_W → Prop} {x v : Int32}  (hQ : Q (some (.int (sRl M x v).2)) (wM κ ((sRl M x v).1))) : CT κ (1, 0, 0) mX6_rule [rv κ 0, .int x, .int v] (wM κ M) Q := by
  refine CT.of okX6_rule [some (rv κ 0), some (.int x), some (.int v), none] (Nat.le_of_ble_eq_true rfl) rfl ?_
  refine wp_iload_1 dX6_rule_0 ?_
  refine wp_if_ne (tgt := 32) dX6_rule_1 rfl (fun c1 => ?_) (fun c1 => ?_)
  · refine wp_iload_1 dX6_rule_32 ?_
    refine wp_iconst (v := 1) dX6_rule_33 rfl ?_
    refine wp_icmp_ne (tgt := 65) dX6_rule_34 rfl (fun c34 => ?_) (fun c34 => ?_)
    · refine wp_iconst (v := (-1)) dX6_rule_65 rfl ?_
      refine wp_iret dX6_rule_66 rfl rfl ?_
      first
        | (rw [sRl, if_pos (Or.inl c1), if_pos (Or.inl c34)] at hQ; exact hQ)
        | (rw [sRl, if_pos (Or.inl c1), if_pos (Or.inr c44)] at hQ; exact hQ)
        | (rw [sRl, if_pos (Or.inl c1), if_neg (fun q => q.elim (fun q => q c34) c44)] at hQ; exact hQ)
        | (rw [sRl, if_pos (Or.inr c11), if_pos (Or.inl c34)] at hQ; exact hQ)
        | (rw [sRl, if_pos (Or.inr c11), if_pos (Or.inr c44)] at hQ; exact hQ)
        | (rw [sRl, if_pos (Or.inr c11), if_neg (fun q => q.elim (fun q => q c34) c44)] at hQ; exact hQ)
        | (rw [sRl, if_neg (fun q => q.elim (fun q => q c1) c11)] at hQ; exact hQ)
    · refine wp_iload_2 dX6_rule_37 ?_
      refine wp_iconst (v := 0) dX6_rule_38 rfl ?_
      refine wp_bipush (v := 9) dX6_rule_39 rfl ?_
      refine wp_callS_3 kX6_46 dX6_rule_41 (c_X6_within ?_) ⟨Nat.le_of_ble_eq_true rfl, Nat.le_of_ble_eq_true rfl, Nat.le_of_ble_eq_true rfl⟩ (Nat.le_of_ble_eq_true rfl)
      refine wp_if_eq (tgt := 65) dX6_rule_44 rfl (fun c44 => ?_) (fun c44 => ?_)
      · refine wp_iconst (v := (-1)) dX6_rule_65 rfl ?_
        refine wp_iret dX6_rule_66 rfl rfl ?_
        first
          | (rw [sRl, if_pos (Or.inl c1), if_pos (Or.inl c34)] at hQ; exact hQ)
          | (rw [sRl, if_pos (Or.inl c1), if_pos (Or.inr c44)] at hQ; exact hQ)
          | (rw [sRl, if_pos (Or.inl c1), if_neg (fun q => q.elim (fun q => q c34) c44)] at hQ; exact hQ)
          | (rw [sRl, if_pos (Or.inr c11), if_pos (Or.inl c34)] at hQ; exact hQ)
          | (rw [sRl, if_pos (Or.inr c11), if_pos (Or.inr c44)] at hQ; exact hQ)
          | (rw [sRl, if_pos (Or.inr c11), if_neg (fun q => q.elim (fun q => q c34) c44)] at hQ; exact hQ)
          | (rw [sRl, if_neg (fun q => q.elim (fun q => q c1) c11)] at hQ; exact hQ)
      · refine wp_rload_0 dX6_rule_47 ?_
        refine wp_getR (t := 1) fX6_10 dX6_rule_48 kd_0 rfl (rf_0_0) ?_
        refine wp_getI fX6_103 dX6_rule_51 kd_1 rfl ?_
        refine wp_istore_3 dX6_rule_54 (Nat.le_of_ble_eq_true rfl) rfl ?_
        refine wp_rload_0 dX6_rule_55 ?_
        refine wp_getR (t := 1) fX6_10 dX6_rule_56 kd_0 rfl (rf_0_0) ?_
        refine wp_iload_2 dX6_rule_59 ?_
        refine wp_putI fX6_103 dX6_rule_60 kd_1 rfl rfl ?_
        refine wp_iload_3 dX6_rule_63 ?_
        refine wp_iret dX6_rule_64 rfl rfl ?_
        first
          | (rw [sRl, if_pos (Or.inl c1), if_pos (Or.inl c34)] at hQ; exact hQ)
          | (rw [sRl, if_pos (Or.inl c1), if_pos (Or.inr c44)] at hQ; exact hQ)
          | (rw [sRl, if_pos (Or.inl c1), if_neg (fun q => q.elim (fun q => q c34) c44)] at hQ; exact hQ)
          | (rw [sRl, if_pos (Or.inr c11), if_pos (Or.inl c34)] at hQ; exact hQ)
          | (rw [sRl, if_pos (Or.inr c11), if_pos (Or.inr c44)] at hQ; exact hQ)
          | (rw [sRl, if_pos (Or.inr c11), if_neg (fun q => q.elim (fun q => q c34) c44)] at hQ; exact hQ)
          | (rw [sRl, if_neg (fun q => q.elim (fun q => q c1) c11)] at hQ; exact hQ)
  · refine wp_iload_2 dX6_rule_4 ?_
    refine wp_iconst (v := 2) dX6_rule_5 rfl ?_
    refine wp_bipush (v := 52) dX6_rule_6 rfl ?_
    refine wp_callS_3 kX6_46 dX6_rule_8 (c_X6_within ?_) ⟨Nat.le_of_ble_eq_true rfl, Nat.le_of_ble_eq_true rfl, Nat.le_of_ble_eq_true rfl⟩ (Nat.le_of_ble_eq_true rfl)
    refine wp_if_eq (tgt := 32) dX6_rule_11 rfl (fun c11 => ?_) (fun c11 => ?_)
    · refine wp_iload_1 dX6_rule_32 ?_
      refine wp_iconst (v := 1) dX6_rule_33 rfl ?_
      refine wp_icmp_ne (tgt := 65) dX6_rule_34 rfl (fun c34 => ?_) (fun c34 => ?_)
      · refine wp_iconst (v := (-1)) dX6_rule_65 rfl ?_
        refine wp_iret dX6_rule_66 rfl rfl ?_
        first
          | (rw [sRl, if_pos (Or.inl c1), if_pos (Or.inl c34)] at hQ; exact hQ)
          | (rw [sRl, if_pos (Or.inl c1), if_pos (Or.inr c44)] at hQ; exact hQ)
          | (rw [sRl, if_pos (Or.inl c1), if_neg (fun q => q.elim (fun q => q c34) c44)] at hQ; exact hQ)
          | (rw [sRl, if_pos (Or.inr c11), if_pos (Or.inl c34)] at hQ; exact hQ)
          | (rw [sRl, if_pos (Or.inr c11), if_pos (Or.inr c44)] at hQ; exact hQ)
          | (rw [sRl, if_pos (Or.inr c11), if_neg (fun q => q.elim (fun q => q c34) c44)] at hQ; exact hQ)
          | (rw [sRl, if_neg (fun q => q.elim (fun q => q c1) c11)] at hQ; exact hQ)
      · refine wp_iload_2 dX6_rule_37 ?_
        refine wp_iconst (v := 0) dX6_rule_38 rfl ?_
        refine wp_bipush (v := 9) dX6_rule_39 rfl ?_
        refine wp_callS_3 kX6_46 dX6_rule_41 (c_X6_within ?_) ⟨Nat.le_of_ble_eq_true rfl, Nat.le_of_ble_eq_true rfl, Nat.le_of_ble_eq_true rfl⟩ (Nat.le_of_ble_eq_true rfl)
        refine wp_if_eq (tgt := 65) dX6_rule_44 rfl (fun c44 => ?_) (fun c44 => ?_)
        · refine wp_iconst (v := (-1)) dX6_rule_65 rfl ?_
          refine wp_iret dX6_rule_66 rfl rfl ?_
          first
            | (rw [sRl, if_pos (Or.inl c1), if_pos (Or.inl c34)] at hQ; exact hQ)
            | (rw [sRl, if_pos (Or.inl c1), if_pos (Or.inr c44)] at hQ; exact hQ)
            | (rw [sRl, if_pos (Or.inl c1), if_neg (fun q => q.elim (fun q => q c34) c44)] at hQ; exact hQ)
            | (rw [sRl, if_pos (Or.inr c11), if_pos (Or.inl c34)] at hQ; exact hQ)
            | (rw [sRl, if_pos (Or.inr c11), if_pos (Or.inr c44)] at hQ; exact hQ)
            | (rw [sRl, if_pos (Or.inr c11), if_neg (fun q => q.elim (fun q => q c34) c44)] at hQ; exact hQ)
            | (rw [sRl, if_neg (fun q => q.elim (fun q => q c1) c11)] at hQ; exact hQ)
        · refine wp_rload_0 dX6_rule_47 ?_
          refine wp_getR (t := 1) fX6_10 dX6_rule_48 kd_0 rfl (rf_0_0) ?_
          refine wp_getI fX6_103 dX6_rule_51 kd_1 rfl ?_
          refine wp_istore_3 dX6_rule_54 (Nat.le_of_ble_eq_true rfl) rfl ?_
          refine wp_rload_0 dX6_rule_55 ?_
          refine wp_getR (t := 1) fX6_10 dX6_rule_56 kd_0 rfl (rf_0_0) ?_
          refine wp_iload_2 dX6_rule_59 ?_
          refine wp_putI fX6_103 dX6_rule_60 kd_1 rfl rfl ?_
          refine wp_iload_3 dX6_rule_63 ?_
          refine wp_iret dX6_rule_64 rfl rfl ?_
          first
            | (rw [sRl, if_pos (Or.inl c1), if_pos (Or.inl c34)] at hQ; exact hQ)
            | (rw [sRl, if_pos (Or.inl c1), if_pos (Or.inr c44)] at hQ; exact hQ)
            | (rw [sRl, if_pos (Or.inl c1), if_neg (fun q => q.elim (fun q => q c34) c44)] at hQ; exact hQ)
            | (rw [sRl, if_pos (Or.inr c11), if_pos (Or.inl c34)] at hQ; exact hQ)
            | (rw [sRl, if_pos (Or.inr c11), if_pos (Or.inr c44)] at hQ; exact hQ)
            | (rw [sRl, if_pos (Or.inr c11), if_neg (fun q => q.elim (fun q => q c34) c44)] at hQ; exact hQ)
            | (rw [sRl, if_neg (fun q => q.elim (fun q => q c1) c11)] at hQ; exact hQ)
    · refine wp_rload_0 dX6_rule_14 ?_
      refine wp_getR (t := 1) fX6_10 dX6_rule_15 kd_0 rfl (rf_0_0) ?_
      refine wp_getI fX6_100 dX6_rule_18 kd_1 rfl ?_
      refine wp_istore_3 dX6_rule_21 (Nat.le_of_ble_eq_true rfl) rfl ?_
      refine wp_rload_0 dX6_rule_22 ?_
      refine wp_getR (t := 1) fX6_10 dX6_rule_23 kd_0 rfl (rf_0_0) ?_
      refine wp_iload_2 dX6_rule_26 ?_
      refine wp_putI fX6_100 dX6_rule_27 kd_1 rfl rfl ?_
      refine wp_iload_3 dX6_rule_30 ?_
      refine wp_iret dX6_rule_31 rfl rfl ?_
      first
        | (rw [sRl, if_pos (Or.inl c1), if_pos (Or.inl c34)] at hQ; exact hQ)
        | (rw [sRl, if_pos (Or.inl c1), if_pos (Or.inr c44)] at hQ; exact hQ)
        | (rw [sRl, if_pos (Or.inl c1), if_neg (fun q => q.elim (fun q => q c34) c44)] at hQ; exact hQ)
        | (rw [sRl, if_pos (Or.inr c11), if_pos (Or.inl c34)] at hQ; exact hQ)
        | (rw [sRl, if_pos (Or.inr c11), if_pos (Or.inr c44)] at hQ; exact hQ)
        | (rw [sRl, if_pos (Or.inr c11), if_neg (fun q => q.elim (fun q => q c34) c44)] at hQ; exact hQ)
        | (rw [sRl, if_neg (fun q => q.elim (fun q => q c1) c11)] at hQ; exact hQ)
def sTy (M : MM) (L : Nat) (x : Int32) : MM × Int32 := if wi x 32 126 = 0 then (M, -1) else if nI L < 60 then (wrt M L (x.toUInt32 % 65536).toInt32, nI L + 1) else (M, -3)
set_option maxRecDepth 100000 in
set_option maxHeartbeats 4000000 in
theorem c_X6_type {κ : KX} {M : MM} {Q : Option Value → va_W → Prop} {L : Nat} {x : Int32} (hL : M.1 106 1 = nI L) (h60 : L ≤ 60) (hQ : Q (some (.int (sTy M L x).2)) (wM κ ((sTy M L x).1))) : CT κ (1, 0, 0) mX6_type [rv κ 0, .int x] (wM κ M) Q := by
  refine CT.of okX6_type [some (rv κ 0), some (.int x)] (Nat.le_of_ble_eq_true rfl) rfl ?_
  refine wp_iload_1 dX6_type_0 ?_
  refine wp_bipush (v := 32) dX6_type_1 rfl ?_
  refine wp_bipush (v := 126) dX6_type_3 rfl ?_
  refine wp_callS_3 kX6_46 dX6_type_5 (c_X6_within ?_) ⟨Nat.le_of_ble_eq_true rfl, Nat.le_of_ble_eq_true rfl, Nat.le_of_ble_eq_true rfl⟩ (Nat.le_of_ble_eq_true rfl)
  refine wp_if_ne (tgt := 13) dX6_type_8 rfl (fun c8 => ?_) (fun c8 => ?_)
  · refine wp_rload_0 dX6_type_13 ?_
    refine wp_getR (t := 106) fX6_35 dX6_type_14 kd_0 rfl (rf_0_4) ?_
    refine wp_getI fX6_106 dX6_type_17 kd_106 rfl ?_
    rw [hL]
    refine wp_bipush (v := 60) dX6_type_20 rfl ?_
    refine wp_icmp_lt (tgt := 28) dX6_type_22 rfl (fun c22 => ?_) (fun c22 => ?_)
    · refine wp_rload_0 dX6_type_28 ?_
      refine wp_getR (t := 106) fX6_35 dX6_type_29 kd_0 rfl (rf_0_4) ?_
      refine wp_iload_1 dX6_type_32 ?_
      refine wp_i2c dX6_type_33 ?_
      refine wp_callV_1 kX6_109 dX6_type_34 kd_106 rfl (c_X5_write hL (ltN (b := 60) c22 (by omega) (by decide)) ?_) ⟨Nat.le_of_ble_eq_true rfl, Nat.le_of_ble_eq_true rfl, Nat.le_of_ble_eq_true rfl⟩ (Nat.le_of_ble_eq_true rfl)
      refine wp_iret dX6_type_37 rfl rfl ?_
      first
        | (rw [sTy, if_pos c8] at hQ; exact hQ)
        | (rw [sTy, if_neg c8, if_pos c22] at hQ; exact hQ)
        | (rw [sTy, if_neg c8, if_neg c22] at hQ; exact hQ)
    · refine wp_bipush (v := (-3)) dX6_type_25 rfl ?_
      refine wp_iret dX6_type_27 rfl rfl ?_
      first
        | (rw [sTy, if_pos c8] at hQ; exact hQ)
        | (rw [sTy, if_neg c8, if_pos c22] at hQ; exact hQ)
        | (rw [sTy, if_neg c8, if_neg c22] at hQ; exact hQ)
  · refine wp_iconst (v := (-1)) dX6_type_11 rfl ?_
    refine wp_iret dX6_type_12 rfl rfl ?_
    first
      | (rw [sTy, if_pos c8] at hQ; exact hQ)
      | (rw [sTy, if_neg c8, if_pos c22] at hQ; exact hQ)
      | (rw [sTy, if_neg c8, if_neg c22] at hQ; exact hQ)
def sS1 (M : MM) (L : Nat) : MM := sI (prs M L).1 106 1 0
def sSt (M : MM) (L t : Nat) : MM × Int32 := if (prs M L).2 ≤ 0 then (sS1 M L, (prs M L).2) else (ly2 (ly1 (ly0 (sS1 M L)) t) (t - 1), (prs M L).2)
set_option maxRecDepth 100000 in
set_option maxHeartbeats 4000000 in
theorem c_X6_street {κ : KX} {M : MM} {Q : Option Value → va_W → Prop} {L t : Nat} (hL : M.1 106 1 = nI L) (h60 : L ≤ 60) (ht : ¬ (prs M L).2 ≤ 0 → (prs M L).1.1 106 5 = nI t ∧ t ≤ 6) (hQ : Q (some (.int (sSt M L t).2)) (wM κ ((sSt M L t).1))) : CT κ (6, 0, 0) mX6_street [rv κ 0] (wM κ M) Q := by
  refine CT.of okX6_street [some (rv κ 0), none] (Nat.le_of_ble_eq_true rfl) rfl ?_
  refine wp_rload_0 dX6_street_0 ?_
  refine wp_getR (t := 106) fX6_35 dX6_street_1 kd_0 rfl (rf_0_4) ?_
  refine wp_callV_0 kX6_113 dX6_street_4 kd_106 rfl (c_X5_parse hL h60 ?_) ⟨Nat.le_of_ble_eq_true rfl, Nat.le_of_ble_eq_true rfl, Nat.le_of_ble_eq_true rfl⟩ (Nat.le_of_ble_eq_true rfl)
  refine wp_istore_1 dX6_street_7 (Nat.le_of_ble_eq_true rfl) rfl ?_
  refine wp_rload_0 dX6_street_8 ?_
  refine wp_getR (t := 106) fX6_35 dX6_street_9 kd_0 rfl (rf_0_4) ?_
  refine wp_iconst (v := 0) dX6_street_12 rfl ?_
  refine wp_putI fX6_106 dX6_street_13 kd_106 rfl rfl ?_
  refine wp_iload_1 dX6_street_16 ?_
  refine wp_if_le (tgt := 31) dX6_street_17 rfl (fun c17 => ?_) (fun c17 => ?_)
  · refine wp_iload_1 dX6_street_31 ?_
    refine wp_iret dX6_street_32 rfl rfl ?_
    first
      | (rw [sSt, if_pos c17] at hQ; exact hQ)
      | (rw [sSt, if_neg c17] at hQ; exact hQ)
  · refine wp_rload_0 dX6_street_20 ?_
    refine wp_getR (t := 1) fX6_10 dX6_street_21 kd_0 rfl (rf_0_0) ?_
    refine wp_rload_0 dX6_street_24 ?_
    refine wp_getR (t := 106) fX6_35 dX6_street_25 kd_0 rfl (rf_0_4) ?_
    refine wp_callV_1 kX6_117 dX6_street_28 kd_1 rfl (c_X4_layOut (M := sS1 M L) (t := t) (ht c17).1 (ht c17).2 ?_) ⟨Nat.le_of_ble_eq_true rfl, Nat.le_of_ble_eq_true rfl, Nat.le_of_ble_eq_true rfl⟩ (Nat.le_of_ble_eq_true rfl)
    refine wp_iload_1 dX6_street_31 ?_
    refine wp_iret dX6_street_32 rfl rfl ?_
    first
      | (rw [sSt, if_pos c17] at hQ; exact hQ)
      | (rw [sSt, if_neg c17] at hQ; exact hQ)
def sCn (M : MM) (g : Nat) (x : Int32) : Int32 := if x = 0 then nI g else if x = 1 then M.1 4 4 else if x = 2 then M.1 1 3 else if x = 3 then M.1 1 4 else if x = 4 then smI (M.1 5) (g - 1) else if x = 5 then smI (M.1 6) (g - 1) else if x = 6 then smI (M.1 8) g else if x = 7 then wtm M else if x = 8 then opn M (g - 1) else if x = 9 then M.1 9 2 else -1
set_option maxRecDepth 100000 in
set_option maxHeartbeats 4000000 in
theorem c_X6_count {κ : KX} {M : MM} {Q : Option Value → va_W → Prop} {g : Nat} {x : Int32} (hg : M.1 1 2 = nI g) (h6 : g ≤ 6) (hy : 0 < M.1 1 3) (hQ : Q (some (.int (sCn M g x))) (wM κ (M))) : CT κ (3, 0, 0) mX6_count [rv κ 0, .int x] (wM κ M) Q := by
  refine CT.of okX6_count [some (rv κ 0), some (.int x)] (Nat.le_of_ble_eq_true rfl) rfl ?_
  refine wp_iload_1 dX6_count_0 ?_
  refine sw_0_9 x (fun hzQ => ?_) (fun hzQ => ?_) (fun hzQ => ?_) (fun hzQ => ?_) (fun hzQ => ?_) (fun hzQ => ?_) (fun hzQ => ?_) (fun hzQ => ?_) (fun hzQ => ?_) (fun hzQ => ?_) (fun hzQ => ?_)
  · subst hzQ
    refine wp_switch dX6_count_1 56 rfl (fun _ => (Nat.le_of_ble_eq_true rfl)) ?_
    refine wp_rload_0 dX6_count_56 ?_
    refine wp_getR (t := 1) fX6_10 dX6_count_57 kd_0 rfl (rf_0_0) ?_
    refine wp_getI fX6_50 dX6_count_60 kd_1 rfl ?_
    rw [hg]
    refine wp_iret dX6_count_63 rfl rfl ?_
    simpa [sCn] using hQ
  · subst hzQ
    refine wp_switch dX6_count_1 64 rfl (fun _ => (Nat.le_of_ble_eq_true rfl)) ?_
    refine wp_rload_0 dX6_count_64 ?_
    refine wp_getR (t := 1) fX6_10 dX6_count_65 kd_0 rfl (rf_0_0) ?_
    refine wp_getR (t := 4) fX6_69 dX6_count_68 kd_1 rfl (rf_1_5) ?_
    refine wp_getI fX6_121 dX6_count_71 kd_4 rfl ?_
    refine wp_iret dX6_count_74 rfl rfl ?_
    simpa [sCn] using hQ
  · subst hzQ
    refine wp_switch dX6_count_1 75 rfl (fun _ => (Nat.le_of_ble_eq_true rfl)) ?_
    refine wp_rload_0 dX6_count_75 ?_
    refine wp_getR (t := 1) fX6_10 dX6_count_76 kd_0 rfl (rf_0_0) ?_
    refine wp_getI fX6_100 dX6_count_79 kd_1 rfl ?_
    refine wp_iret dX6_count_82 rfl rfl ?_
    simpa [sCn] using hQ
  · subst hzQ
    refine wp_switch dX6_count_1 83 rfl (fun _ => (Nat.le_of_ble_eq_true rfl)) ?_
    refine wp_rload_0 dX6_count_83 ?_
    refine wp_getR (t := 1) fX6_10 dX6_count_84 kd_0 rfl (rf_0_0) ?_
    refine wp_getI fX6_103 dX6_count_87 kd_1 rfl ?_
    refine wp_iret dX6_count_90 rfl rfl ?_
    simpa [sCn] using hQ
  · subst hzQ
    refine wp_switch dX6_count_1 91 rfl (fun _ => (Nat.le_of_ble_eq_true rfl)) ?_
    refine wp_rload_0 dX6_count_91 ?_
    refine wp_getR (t := 1) fX6_10 dX6_count_92 kd_0 rfl (rf_0_0) ?_
    refine wp_getR (t := 4) fX6_69 dX6_count_95 kd_1 rfl (rf_1_5) ?_
    refine wp_getR (t := 5) fX6_88 dX6_count_98 kd_4 rfl (rf_4_0) ?_
    refine wp_rload_0 dX6_count_101 ?_
    refine wp_getR (t := 1) fX6_10 dX6_count_102 kd_0 rfl (rf_0_0) ?_
    refine wp_callV_0 kX6_124 dX6_count_105 kd_1 rfl (c_X4_walls hg h6 ?_) ⟨Nat.le_of_ble_eq_true rfl, Nat.le_of_ble_eq_true rfl, Nat.le_of_ble_eq_true rfl⟩ (Nat.le_of_ble_eq_true rfl)
    refine wp_callS_2 kX6_127 dX6_count_108 (c_X6_sum ar_5 (by omega) (by decide) ?_) ⟨Nat.le_of_ble_eq_true rfl, Nat.le_of_ble_eq_true rfl, Nat.le_of_ble_eq_true rfl⟩ (Nat.le_of_ble_eq_true rfl)
    refine wp_iret dX6_count_111 rfl rfl ?_
    simpa [sCn] using hQ
  · subst hzQ
    refine wp_switch dX6_count_1 112 rfl (fun _ => (Nat.le_of_ble_eq_true rfl)) ?_
    refine wp_rload_0 dX6_count_112 ?_
    refine wp_getR (t := 1) fX6_10 dX6_count_113 kd_0 rfl (rf_0_0) ?_
    refine wp_getR (t := 4) fX6_69 dX6_count_116 kd_1 rfl (rf_1_5) ?_
    refine wp_getR (t := 6) fX6_91 dX6_count_119 kd_4 rfl (rf_4_1) ?_
    refine wp_rload_0 dX6_count_122 ?_
    refine wp_getR (t := 1) fX6_10 dX6_count_123 kd_0 rfl (rf_0_0) ?_
    refine wp_callV_0 kX6_124 dX6_count_126 kd_1 rfl (c_X4_walls hg h6 ?_) ⟨Nat.le_of_ble_eq_true rfl, Nat.le_of_ble_eq_true rfl, Nat.le_of_ble_eq_true rfl⟩ (Nat.le_of_ble_eq_true rfl)
    refine wp_callS_2 kX6_127 dX6_count_129 (c_X6_sum ar_6 (by omega) (by decide) ?_) ⟨Nat.le_of_ble_eq_true rfl, Nat.le_of_ble_eq_true rfl, Nat.le_of_ble_eq_true rfl⟩ (Nat.le_of_ble_eq_true rfl)
    refine wp_iret dX6_count_132 rfl rfl ?_
    simpa [sCn] using hQ
  · subst hzQ
    refine wp_switch dX6_count_1 133 rfl (fun _ => (Nat.le_of_ble_eq_true rfl)) ?_
    refine wp_rload_0 dX6_count_133 ?_
    refine wp_getR (t := 1) fX6_10 dX6_count_134 kd_0 rfl (rf_0_0) ?_
    refine wp_getR (t := 4) fX6_69 dX6_count_137 kd_1 rfl (rf_1_5) ?_
    refine wp_getR (t := 8) fX6_73 dX6_count_140 kd_4 rfl (rf_4_3) ?_
    refine wp_rload_0 dX6_count_143 ?_
    refine wp_getR (t := 1) fX6_10 dX6_count_144 kd_0 rfl (rf_0_0) ?_
    refine wp_getI fX6_50 dX6_count_147 kd_1 rfl ?_
    rw [hg]
    refine wp_callS_2 kX6_127 dX6_count_150 (c_X6_sum ar_8 h6 (by decide) ?_) ⟨Nat.le_of_ble_eq_true rfl, Nat.le_of_ble_eq_true rfl, Nat.le_of_ble_eq_true rfl⟩ (Nat.le_of_ble_eq_true rfl)
    refine wp_iret dX6_count_153 rfl rfl ?_
    simpa [sCn] using hQ
  · subst hzQ
    refine wp_switch dX6_count_1 154 rfl (fun _ => (Nat.le_of_ble_eq_true rfl)) ?_
    refine wp_rload_0 dX6_count_154 ?_
    refine wp_getR (t := 1) fX6_10 dX6_count_155 kd_0 rfl (rf_0_0) ?_
    refine wp_callV_0 kX6_131 dX6_count_158 kd_1 rfl (c_X4_weeksToMichaelmas hy ?_) ⟨Nat.le_of_ble_eq_true rfl, Nat.le_of_ble_eq_true rfl, Nat.le_of_ble_eq_true rfl⟩ (Nat.le_of_ble_eq_true rfl)
    refine wp_iret dX6_count_161 rfl rfl ?_
    simpa [sCn] using hQ
  · subst hzQ
    refine wp_switch dX6_count_1 162 rfl (fun _ => (Nat.le_of_ble_eq_true rfl)) ?_
    refine wp_rload_0 dX6_count_162 ?_
    refine wp_getR (t := 1) fX6_10 dX6_count_163 kd_0 rfl (rf_0_0) ?_
    refine wp_callV_0 kX6_134 dX6_count_166 kd_1 rfl (c_X4_openToApology hg h6 ?_) ⟨Nat.le_of_ble_eq_true rfl, Nat.le_of_ble_eq_true rfl, Nat.le_of_ble_eq_true rfl⟩ (Nat.le_of_ble_eq_true rfl)
    refine wp_iret dX6_count_169 rfl rfl ?_
    simpa [sCn] using hQ
  · subst hzQ
    refine wp_switch dX6_count_1 170 rfl (fun _ => (Nat.le_of_ble_eq_true rfl)) ?_
    refine wp_rload_0 dX6_count_170 ?_
    refine wp_getR (t := 1) fX6_10 dX6_count_171 kd_0 rfl (rf_0_0) ?_
    refine wp_getR (t := 9) fX6_137 dX6_count_174 kd_1 rfl (rf_1_6) ?_
    refine wp_getI fX6_141 dX6_count_177 kd_9 rfl ?_
    refine wp_iret dX6_count_180 rfl rfl ?_
    simpa [sCn] using hQ
  · refine wp_switch dX6_count_1 181 (by rw [if_pos hzQ]; rfl) (fun q => absurd hzQ q) ?_
    refine wp_iconst (v := (-1)) dX6_count_181 rfl ?_
    refine wp_iret dX6_count_182 rfl rfl ?_
    have e0 : ¬ x = 0 := sw_default (k := 0) hzQ (by decide) (by decide) (by decide)
    have e1 : ¬ x = 1 := sw_default (k := 1) hzQ (by decide) (by decide) (by decide)
    have e2 : ¬ x = 2 := sw_default (k := 2) hzQ (by decide) (by decide) (by decide)
    have e3 : ¬ x = 3 := sw_default (k := 3) hzQ (by decide) (by decide) (by decide)
    have e4 : ¬ x = 4 := sw_default (k := 4) hzQ (by decide) (by decide) (by decide)
    have e5 : ¬ x = 5 := sw_default (k := 5) hzQ (by decide) (by decide) (by decide)
    have e6 : ¬ x = 6 := sw_default (k := 6) hzQ (by decide) (by decide) (by decide)
    have e7 : ¬ x = 7 := sw_default (k := 7) hzQ (by decide) (by decide) (by decide)
    have e8 : ¬ x = 8 := sw_default (k := 8) hzQ (by decide) (by decide) (by decide)
    have e9 : ¬ x = 9 := sw_default (k := 9) hzQ (by decide) (by decide) (by decide)
    simpa [sCn, e0, e1, e2, e3, e4, e5, e6, e7, e8, e9] using hQ
def rfw (M : MM) (x : Int32) : Int32 := if wi x 1 52 = 0 then -1 else if M.1 4 4 + x ≤ 9999 then 0 else -3
set_option maxRecDepth 100000 in
set_option maxHeartbeats 4000000 in
theorem c_X6_refusalOfWeeks {κ : KX} {M : MM} {Q : Option Value → va_W → Prop} {x : Int32}  (hQ : Q (some (.int (rfw M x))) (wM κ (M))) : CT κ (1, 0, 0) mX6_refusalOfWeeks [rv κ 0, .int x] (wM κ M) Q := by
  refine CT.of okX6_refusalOfWeeks [some (rv κ 0), some (.int x)] (Nat.le_of_ble_eq_true rfl) rfl ?_
  refine wp_iload_1 dX6_refusalOfWeeks_0 ?_
  refine wp_iconst (v := 1) dX6_refusalOfWeeks_1 rfl ?_
  refine wp_bipush (v := 52) dX6_refusalOfWeeks_2 rfl ?_
  refine wp_callS_3 kX6_46 dX6_refusalOfWeeks_4 (c_X6_within ?_) ⟨Nat.le_of_ble_eq_true rfl, Nat.le_of_ble_eq_true rfl, Nat.le_of_ble_eq_true rfl⟩ (Nat.le_of_ble_eq_true rfl)
  refine wp_if_ne (tgt := 12) dX6_refusalOfWeeks_7 rfl (fun c7 => ?_) (fun c7 => ?_)
  · refine wp_rload_0 dX6_refusalOfWeeks_12 ?_
    refine wp_getR (t := 1) fX6_10 dX6_refusalOfWeeks_13 kd_0 rfl (rf_0_0) ?_
    refine wp_getR (t := 4) fX6_69 dX6_refusalOfWeeks_16 kd_1 rfl (rf_1_5) ?_
    refine wp_getI fX6_121 dX6_refusalOfWeeks_19 kd_4 rfl ?_
    refine wp_iload_1 dX6_refusalOfWeeks_22 ?_
    refine wp_iadd dX6_refusalOfWeeks_23 ?_
    refine wp_sipush (v := 9999) dX6_refusalOfWeeks_24 rfl ?_
    refine wp_icmp_le (tgt := 35) dX6_refusalOfWeeks_27 rfl (fun c27 => ?_) (fun c27 => ?_)
    · refine wp_iconst (v := 0) dX6_refusalOfWeeks_35 rfl ?_
      refine wp_iret dX6_refusalOfWeeks_36 rfl rfl ?_
      first
        | (rw [rfw, if_pos c7] at hQ; exact hQ)
        | (rw [rfw, if_neg c7, if_pos c27] at hQ; exact hQ)
        | (rw [rfw, if_neg c7, if_neg c27] at hQ; exact hQ)
    · refine wp_bipush (v := (-3)) dX6_refusalOfWeeks_30 rfl ?_
      refine wp_goto (tgt := 36) dX6_refusalOfWeeks_32 rfl ?_
      refine wp_iret dX6_refusalOfWeeks_36 rfl rfl ?_
      first
        | (rw [rfw, if_pos c7] at hQ; exact hQ)
        | (rw [rfw, if_neg c7, if_pos c27] at hQ; exact hQ)
        | (rw [rfw, if_neg c7, if_neg c27] at hQ; exact hQ)
  · refine wp_iconst (v := (-1)) dX6_refusalOfWeeks_10 rfl ?_
    refine wp_iret dX6_refusalOfWeeks_11 rfl rfl ?_
    first
      | (rw [rfw, if_pos c7] at hQ; exact hQ)
      | (rw [rfw, if_neg c7, if_pos c27] at hQ; exact hQ)
      | (rw [rfw, if_neg c7, if_neg c27] at hQ; exact hQ)
def nxO (o u : Nat) : Nat := if u < 8 then o else (o + 1) % 8
def nxU (u : Nat) : Nat := if u < 8 then u + 1 else 8
theorem nxO_lt {o u : Nat} (h : o < 8) : nxO o u < 8 := by
  unfold nxO
  split
  · exact h
  · exact Nat.mod_lt _ (by decide)
theorem nxU_le {u : Nat} : nxU u ≤ 8 := by
  unfold nxU
  split <;> omega
theorem adS_fr (o u : Nat) (M : MM) {k : Nat} (h : k < 9 ∨ 50 < k) : (adS o u M).1 k = M.1 k := by
  have hb : (bec M (stp o u) 4).1 k = M.1 k := bec_fr M _ _ (by unfold stp; omega)
  have h9 : k ≠ 9 := by omega
  unfold adS
  split <;> simp [sI, h9, hb]
theorem adS_9 {o u : Nat} {M : MM} (ho : M.1 9 1 = nI o) (hu : M.1 9 2 = nI u) (hu8 : u ≤ 8) : (adS o u M).1 9 1 = nI (nxO o u) ∧ (adS o u M).1 9 2 = nI (nxU u) := by
  have hb : (bec M (stp o u) 4).1 9 = M.1 9 := bec_fr M _ _ (by unfold stp; omega)
  unfold adS nxO nxU
  split
  · refine ⟨?_, ?_⟩
    · show (bec M (stp o u) 4).1 9 1 = _
      rw [hb, ho]
    · rw [sI_same, nI_1]
  · refine ⟨sI_same _ _ _ _, ?_⟩
    show (bec M (stp o u) 4).1 9 2 = _
    rw [hb, hu, show u = 8 by omega]
theorem pwk_fr (g : Nat) (M : MM) {k : Nat} (h4 : k ≠ 4) (h5 : k ≠ 5) (h6 : k ≠ 6) (h8 : k ≠ 8) : (pwk g M).1 k = M.1 k := by
  unfold pwk
  split
  · rw [aAll_fr _ h5 h8]
    simp [sI, h4, vAll_fr M h6]
  · simp [sI, h4, vAll_fr M h6]
def wks (g : Nat) : Nat → Nat → Nat → MM → MM
  | 0, _, _, M => M
  | n + 1, o, u, M => wks g n (nxO o u) (nxU u) (pwk g (adS o u M))
set_option maxRecDepth 100000 in
set_option maxHeartbeats 4000000 in
theorem x_X6_weeks {κ : KX} {M : MM} {Q : Option Value → va_W → Prop} {g : Nat} {x z j : Int32} (hg : M.1 1 2 = nI g) (h6 : g ≤ 6) (hQ : Q (some (.int (smI (M.1 5) (g - 1)))) (wM κ M)) : WP κ (5, 0, 0) mX6_weeks 39 [some (rv κ 0), some (.int x), some (.int z), some (.int j)] [] (wM κ M) (0, 0) Q := by
  refine wp_rload_0 dX6_weeks_39 ?_
  refine wp_getR (t := 1) fX6_10 dX6_weeks_40 kd_0 rfl (rf_0_0) ?_
  refine wp_getR (t := 4) fX6_69 dX6_weeks_43 kd_1 rfl (rf_1_5) ?_
  refine wp_getR (t := 5) fX6_88 dX6_weeks_46 kd_4 rfl (rf_4_0) ?_
  refine wp_rload_0 dX6_weeks_49 ?_
  refine wp_getR (t := 1) fX6_10 dX6_weeks_50 kd_0 rfl (rf_0_0) ?_
  refine wp_callV_0 kX6_124 dX6_weeks_53 kd_1 rfl (c_X4_walls hg h6 ?_) ⟨Nat.le_of_ble_eq_true rfl, Nat.le_of_ble_eq_true rfl, Nat.le_of_ble_eq_true rfl⟩ (Nat.le_of_ble_eq_true rfl)
  refine wp_callS_2 kX6_127 dX6_weeks_56 (c_X6_sum ar_5 (by omega) (by decide) ?_) ⟨Nat.le_of_ble_eq_true rfl, Nat.le_of_ble_eq_true rfl, Nat.le_of_ble_eq_true rfl⟩ (Nat.le_of_ble_eq_true rfl)
  refine wp_iret dX6_weeks_59 rfl rfl ?_
  exact hQ
set_option maxRecDepth 100000 in
set_option maxHeartbeats 4000000 in
theorem l_X6_weeks {κ : KX} {Q : Option Value → va_W → Prop} {g m : Nat} {z : Int32} (h6 : g ≤ 6) (hm : m < 1000) : ∀ n j o u (M : MM), j + n = m → M.1 1 2 = nI g → 0 < M.1 1 3 → M.1 9 1 = nI o → M.1 9 2 = nI u → o < 8 → u ≤ 8 → Q (some (.int (smI ((wks g n o u M).1 5) (g - 1)))) (wM κ (wks g n o u M)) → WP κ (5, 0, 0) mX6_weeks 14 [some (rv κ 0), some (.int (nI m)), some (.int z), some (.int (nI j))] [] (wM κ M) (0, 0) Q := by
  intro n
  induction n with
  | zero =>
    intro j o u M hn hg hy ho hu h8 hu8 hQ
    refine wp_iload_3 dX6_weeks_14 ?_
    refine wp_iload_1 dX6_weeks_15 ?_
    refine wp_icmp_ge (tgt := 39) dX6_weeks_16 rfl (fun c16 => ?_) (fun c16 => absurd (nI_le (by omega) (by omega)) c16)
    exact x_X6_weeks hg h6 hQ
  | succ n ih =>
    intro j o u M hn hg hy ho hu h8 hu8 hQ
    refine wp_iload_3 dX6_weeks_14 ?_
    refine wp_iload_1 dX6_weeks_15 ?_
    refine wp_icmp_ge (tgt := 39) dX6_weeks_16 rfl (fun c16 => absurd c16 (nI_ge (by omega) (by omega))) (fun c16 => ?_)
    refine wp_rload_0 dX6_weeks_19 ?_
    refine wp_getR (t := 1) fX6_10 dX6_weeks_20 kd_0 rfl (rf_0_0) ?_
    refine wp_callV_0 kX6_149 dX6_weeks_23 kd_1 rfl (c_X4_remember ho hu h8 hu8 ?_) ⟨Nat.le_of_ble_eq_true rfl, Nat.le_of_ble_eq_true rfl, Nat.le_of_ble_eq_true rfl⟩ (Nat.le_of_ble_eq_true rfl)
    refine wp_rload_0 dX6_weeks_26 ?_
    refine wp_getR (t := 1) fX6_10 dX6_weeks_27 kd_0 rfl (rf_0_0) ?_
    refine wp_callV_0 kX6_152 dX6_weeks_30 kd_1 rfl (c_X4_passWeek (g := g) (by rw [adS_fr _ _ _ (by decide)]; exact hg) h6 (by rw [adS_fr _ _ _ (by decide)]; exact hy) ?_) ⟨Nat.le_of_ble_eq_true rfl, Nat.le_of_ble_eq_true rfl, Nat.le_of_ble_eq_true rfl⟩ (Nat.le_of_ble_eq_true rfl)
    refine wp_iinc_3 (v := nI (j + 1)) dX6_weeks_33 (nI_inc _) (Nat.le_of_ble_eq_true rfl) rfl ?_
    refine wp_goto (tgt := 14) dX6_weeks_36 rfl ?_
    have ha := adS_9 ho hu hu8
    refine ih (j + 1) (nxO o u) (nxU u) (pwk g (adS o u M)) (by omega) ?_ ?_ ?_ ?_ (nxO_lt h8) nxU_le hQ
    · rw [pwk_fr g _ (by decide) (by decide) (by decide) (by decide), adS_fr _ _ _ (by decide)]; exact hg
    · rw [pwk_fr g _ (by decide) (by decide) (by decide) (by decide), adS_fr _ _ _ (by decide)]; exact hy
    · rw [pwk_fr g _ (by decide) (by decide) (by decide) (by decide)]; exact ha.1
    · rw [pwk_fr g _ (by decide) (by decide) (by decide) (by decide)]; exact ha.2
def sWk (M : MM) (g o u : Nat) (x : Int32) : MM × Int32 := if rfw M x = 0 then (wks g (cl x) o u M, smI ((wks g (cl x) o u M).1 5) (g - 1)) else (M, rfw M x)
theorem rfw_0 {M : MM} {x : Int32} (h : rfw M x = 0) : ∃ k, 1 ≤ k ∧ k ≤ 52 ∧ x = nI k := by
  refine rng_of (a := 1) (b := 52) (fun e => ?_) (by decide) (by decide)
  have e : wi x 1 52 = 0 := e
  rw [rfw, if_pos e] at h
  exact absurd h (by decide)
set_option maxRecDepth 100000 in
set_option maxHeartbeats 4000000 in
theorem c_X6_weeks {κ : KX} {M : MM} {Q : Option Value → va_W → Prop} {g o u : Nat} {x : Int32} (hg : M.1 1 2 = nI g) (h6 : g ≤ 6) (hy : 0 < M.1 1 3) (ho : M.1 9 1 = nI o) (hu : M.1 9 2 = nI u) (h8 : o < 8) (hu8 : u ≤ 8) (hQ : Q (some (.int (sWk M g o u x).2)) (wM κ ((sWk M g o u x).1))) : CT κ (5, 0, 0) mX6_weeks [rv κ 0, .int x] (wM κ M) Q := by
  refine CT.of okX6_weeks [some (rv κ 0), some (.int x), none, none] (Nat.le_of_ble_eq_true rfl) rfl ?_
  refine wp_rload_0 dX6_weeks_0 ?_
  refine wp_iload_1 dX6_weeks_1 ?_
  refine wp_callV_1 kX6_146 dX6_weeks_2 kd_0 rfl (c_X6_refusalOfWeeks ?_) ⟨Nat.le_of_ble_eq_true rfl, Nat.le_of_ble_eq_true rfl, Nat.le_of_ble_eq_true rfl⟩ (Nat.le_of_ble_eq_true rfl)
  refine wp_istore_2 dX6_weeks_5 (Nat.le_of_ble_eq_true rfl) rfl ?_
  refine wp_iload_2 dX6_weeks_6 ?_
  refine wp_if_eq (tgt := 12) dX6_weeks_7 rfl (fun c7 => ?_) (fun c7 => ?_)
  · obtain ⟨m, hm1, hm2, rfl⟩ := rfw_0 c7
    rw [sWk, if_pos c7, cl_nI (by omega)] at hQ
    refine wp_iconst (v := 0) dX6_weeks_12 rfl ?_
    refine wp_istore_3 dX6_weeks_13 (Nat.le_of_ble_eq_true rfl) rfl ?_
    exact l_X6_weeks h6 (by omega) m 0 o u M (by omega) hg hy ho hu h8 hu8 hQ
  · refine wp_iload_2 dX6_weeks_10 ?_
    refine wp_iret dX6_weeks_11 rfl rfl ?_
    rw [sWk, if_neg c7] at hQ
    exact hQ
def dfs (g : Nat) : Nat → Nat → Nat → MM → Int32 → MM × Int32
  | 0, _, _, M, f => (M, f)
  | n + 1, o, u, M, f => dfs g n (nxO o u) (nxU u) (blw (pwk g (adS o u M)) (g - 1)).1 (f + (blw (pwk g (adS o u M)) (g - 1)).2)
set_option maxRecDepth 100000 in
set_option maxHeartbeats 4000000 in
theorem l_X6_drift {κ : KX} {Q : Option Value → va_W → Prop} {g m : Nat} {z : Int32} (h6 : g ≤ 6) (hm : m < 1000) : ∀ n j o u (M : MM) (f : Int32), j + n = m → M.1 1 2 = nI g → 0 < M.1 1 3 → M.1 9 1 = nI o → M.1 9 2 = nI u → o < 8 → u ≤ 8 → Q (some (.int (dfs g n o u M f).2)) (wM κ (dfs g n o u M f).1) → WP κ (5, 0, 0) mX6_drift 17 [some (rv κ 0), some (.int (nI m)), some (.int z), some (.int f), some (.int (nI j))] [] (wM κ M) (0, 0) Q := by
  intro n
  induction n with
  | zero =>
    intro j o u M f hn hg hy ho hu h8 hu8 hQ
    refine wp_iload_4 dX6_drift_17 ?_
    refine wp_iload_1 dX6_drift_19 ?_
    refine wp_icmp_ge (tgt := 53) dX6_drift_20 rfl (fun c20 => ?_) (fun c20 => absurd (nI_le (by omega) (by omega)) c20)
    refine wp_iload_3 dX6_drift_53 ?_
    refine wp_iret dX6_drift_54 rfl rfl ?_
    exact hQ
  | succ n ih =>
    intro j o u M f hn hg hy ho hu h8 hu8 hQ
    refine wp_iload_4 dX6_drift_17 ?_
    refine wp_iload_1 dX6_drift_19 ?_
    refine wp_icmp_ge (tgt := 53) dX6_drift_20 rfl (fun c20 => absurd c20 (nI_ge (by omega) (by omega))) (fun c20 => ?_)
    refine wp_rload_0 dX6_drift_23 ?_
    refine wp_getR (t := 1) fX6_10 dX6_drift_24 kd_0 rfl (rf_0_0) ?_
    refine wp_callV_0 kX6_149 dX6_drift_27 kd_1 rfl (c_X4_remember ho hu h8 hu8 ?_) ⟨Nat.le_of_ble_eq_true rfl, Nat.le_of_ble_eq_true rfl, Nat.le_of_ble_eq_true rfl⟩ (Nat.le_of_ble_eq_true rfl)
    refine wp_rload_0 dX6_drift_30 ?_
    refine wp_getR (t := 1) fX6_10 dX6_drift_31 kd_0 rfl (rf_0_0) ?_
    refine wp_callV_0 kX6_152 dX6_drift_34 kd_1 rfl (c_X4_passWeek (g := g) (by rw [adS_fr _ _ _ (by decide)]; exact hg) h6 (by rw [adS_fr _ _ _ (by decide)]; exact hy) ?_) ⟨Nat.le_of_ble_eq_true rfl, Nat.le_of_ble_eq_true rfl, Nat.le_of_ble_eq_true rfl⟩ (Nat.le_of_ble_eq_true rfl)
    refine wp_iload_3 dX6_drift_37 ?_
    refine wp_rload_0 dX6_drift_38 ?_
    refine wp_getR (t := 1) fX6_10 dX6_drift_39 kd_0 rfl (rf_0_0) ?_
    refine wp_callV_0 kX6_167 dX6_drift_42 kd_1 rfl (c_X4_blow (g := g) (by rw [pwk_fr g _ (by decide) (by decide) (by decide) (by decide), adS_fr _ _ _ (by decide)]; exact hg) h6 ?_) ⟨Nat.le_of_ble_eq_true rfl, Nat.le_of_ble_eq_true rfl, Nat.le_of_ble_eq_true rfl⟩ (Nat.le_of_ble_eq_true rfl)
    refine wp_iadd dX6_drift_45 ?_
    refine wp_istore_3 dX6_drift_46 (Nat.le_of_ble_eq_true rfl) rfl ?_
    refine wp_iinc_4 (v := nI (j + 1)) dX6_drift_47 (nI_inc _) (Nat.le_of_ble_eq_true rfl) rfl ?_
    refine wp_goto (tgt := 17) dX6_drift_50 rfl ?_
    have ha := adS_9 ho hu hu8
    refine ih (j + 1) (nxO o u) (nxU u) _ _ (by omega) ?_ ?_ ?_ ?_ (nxO_lt h8) nxU_le hQ
    · rw [blw_fr _ (by decide) (by decide) (by decide), pwk_fr g _ (by decide) (by decide) (by decide) (by decide), adS_fr _ _ _ (by decide)]; exact hg
    · rw [blw_fr _ (by decide) (by decide) (by decide), pwk_fr g _ (by decide) (by decide) (by decide) (by decide), adS_fr _ _ _ (by decide)]; exact hy
    · rw [blw_fr _ (by decide) (by decide) (by decide), pwk_fr g _ (by decide) (by decide) (by decide) (by decide)]; exact ha.1
    · rw [blw_fr _ (by decide) (by decide) (by decide), pwk_fr g _ (by decide) (by decide) (by decide) (by decide)]; exact ha.2
def sDf (M : MM) (g o u : Nat) (x : Int32) : MM × Int32 := if rfw M x = 0 then dfs g (cl x) o u M 0 else (M, rfw M x)
set_option maxRecDepth 100000 in
set_option maxHeartbeats 4000000 in
theorem c_X6_drift {κ : KX} {M : MM} {Q : Option Value → va_W → Prop} {g o u : Nat} {x : Int32} (hg : M.1 1 2 = nI g) (h6 : g ≤ 6) (hy : 0 < M.1 1 3) (ho : M.1 9 1 = nI o) (hu : M.1 9 2 = nI u) (h8 : o < 8) (hu8 : u ≤ 8) (hQ : Q (some (.int (sDf M g o u x).2)) (wM κ ((sDf M g o u x).1))) : CT κ (5, 0, 0) mX6_drift [rv κ 0, .int x] (wM κ M) Q := by
  refine CT.of okX6_drift [some (rv κ 0), some (.int x), none, none, none] (Nat.le_of_ble_eq_true rfl) rfl ?_
  refine wp_rload_0 dX6_drift_0 ?_
  refine wp_iload_1 dX6_drift_1 ?_
  refine wp_callV_1 kX6_146 dX6_drift_2 kd_0 rfl (c_X6_refusalOfWeeks ?_) ⟨Nat.le_of_ble_eq_true rfl, Nat.le_of_ble_eq_true rfl, Nat.le_of_ble_eq_true rfl⟩ (Nat.le_of_ble_eq_true rfl)
  refine wp_istore_2 dX6_drift_5 (Nat.le_of_ble_eq_true rfl) rfl ?_
  refine wp_iload_2 dX6_drift_6 ?_
  refine wp_if_eq (tgt := 12) dX6_drift_7 rfl (fun c7 => ?_) (fun c7 => ?_)
  · obtain ⟨m, hm1, hm2, rfl⟩ := rfw_0 c7
    rw [sDf, if_pos c7, cl_nI (by omega)] at hQ
    refine wp_iconst (v := 0) dX6_drift_12 rfl ?_
    refine wp_istore_3 dX6_drift_13 (Nat.le_of_ble_eq_true rfl) rfl ?_
    refine wp_iconst (v := 0) dX6_drift_14 rfl ?_
    refine wp_istore_4 dX6_drift_15 (Nat.le_of_ble_eq_true rfl) rfl ?_
    exact l_X6_drift h6 (by omega) m 0 o u M 0 (by omega) hg hy ho hu h8 hu8 hQ
  · refine wp_iload_2 dX6_drift_10 ?_
    refine wp_iret dX6_drift_11 rfl rfl ?_
    rw [sDf, if_neg c7] at hQ
    exact hQ
