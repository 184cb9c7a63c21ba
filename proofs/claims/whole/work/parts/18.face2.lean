/-! the calls of the class, further -/
def sSy (M : MM) (g o u : Nat) (x : Int32) : MM × Int32 := if wi x 0 (nI (g - 1) - 1) = 0 then (M, -1) else if wta M (cl x) ≤ 0 then (apo (adS o u M) (cl x), (adS o u M).1 6 (cl x) - (adS o u M).1 6 (cl x) / 3) else (M, -2)
set_option maxRecDepth 100000 in
set_option maxHeartbeats 4000000 in
theorem c_X6_sorry {κ : KX} {M : MM} {Q : Option Value → va_W → Prop} {g o u : Nat} {x : Int32} (hg : M.1 1 2 = nI g) (h6 : g ≤ 6) (ho : M.1 9 1 = nI o) (hu : M.1 9 2 = nI u) (h8 : o < 8) (hu8 : u ≤ 8) (hQ : Q (some (.int (sSy M g o u x).2)) (wM κ ((sSy M g o u x).1))) : CT κ (4, 0, 0) mX6_sorry [rv κ 0, .int x] (wM κ M) Q := by
  refine CT.of okX6_sorry [some (rv κ 0), some (.int x)] (Nat.le_of_ble_eq_true rfl) rfl ?_
  refine wp_rload_0 dX6_sorry_0 ?_
  refine wp_getR (t := 1) fX6_10 dX6_sorry_1 kd_0 rfl (rf_0_0) ?_
  refine wp_iload_1 dX6_sorry_4 ?_
  refine wp_callV_1 kX6_85 dX6_sorry_5 kd_1 rfl (c_X4_isWall hg h6 ?_) ⟨Nat.le_of_ble_eq_true rfl, Nat.le_of_ble_eq_true rfl, Nat.le_of_ble_eq_true rfl⟩ (Nat.le_of_ble_eq_true rfl)
  refine wp_if_ne (tgt := 13) dX6_sorry_8 rfl (fun c8 => ?_) (fun c8 => ?_)
  · obtain ⟨w, hw, rfl⟩ := upto_of c8 (by omega)
    rw [sSy, if_neg c8, cl_nI (by omega)] at hQ
    refine wp_rload_0 dX6_sorry_13 ?_
    refine wp_getR (t := 1) fX6_10 dX6_sorry_14 kd_0 rfl (rf_0_0) ?_
    refine wp_getR (t := 4) fX6_69 dX6_sorry_17 kd_1 rfl (rf_1_5) ?_
    refine wp_iload_1 dX6_sorry_20 ?_
    refine wp_callV_1 kX6_97 dX6_sorry_21 kd_4 rfl (c_X3_weeksToApology (by omega) ?_) ⟨Nat.le_of_ble_eq_true rfl, Nat.le_of_ble_eq_true rfl, Nat.le_of_ble_eq_true rfl⟩ (Nat.le_of_ble_eq_true rfl)
    refine wp_if_le (tgt := 30) dX6_sorry_24 rfl (fun c24 => ?_) (fun c24 => ?_)
    · refine wp_rload_0 dX6_sorry_30 ?_
      refine wp_getR (t := 1) fX6_10 dX6_sorry_31 kd_0 rfl (rf_0_0) ?_
      refine wp_callV_0 kX6_149 dX6_sorry_34 kd_1 rfl (c_X4_remember ho hu h8 hu8 ?_) ⟨Nat.le_of_ble_eq_true rfl, Nat.le_of_ble_eq_true rfl, Nat.le_of_ble_eq_true rfl⟩ (Nat.le_of_ble_eq_true rfl)
      refine wp_rload_0 dX6_sorry_37 ?_
      refine wp_getR (t := 1) fX6_10 dX6_sorry_38 kd_0 rfl (rf_0_0) ?_
      refine wp_iload_1 dX6_sorry_41 ?_
      refine wp_callV_1 kX6_155 dX6_sorry_42 kd_1 rfl (c_X4_apologise (by omega) ?_) ⟨Nat.le_of_ble_eq_true rfl, Nat.le_of_ble_eq_true rfl, Nat.le_of_ble_eq_true rfl⟩ (Nat.le_of_ble_eq_true rfl)
      refine wp_iret dX6_sorry_45 rfl rfl ?_
      rw [if_pos c24] at hQ
      exact hQ
    · refine wp_bipush (v := (-2)) dX6_sorry_27 rfl ?_
      refine wp_iret dX6_sorry_29 rfl rfl ?_
      rw [if_neg c24] at hQ
      exact hQ
  · refine wp_iconst (v := (-1)) dX6_sorry_11 rfl ?_
    refine wp_iret dX6_sorry_12 rfl rfl ?_
    rw [sSy, if_pos c8] at hQ
    exact hQ
def gfM (M : MM) (o u w : Nat) (b : Nat) (y : Int32) : MM := sI (adS o u M) 8 (w + b) ((adS o u M).1 8 (w + b) + y)
def sGf (M : MM) (g o u : Nat) (x b y : Int32) : MM × Int32 := if wi x 0 (nI (g - 1) - 1) = 0 then (M, -1) else if wi b 0 1 = 0 then (M, -1) else if wi y 1 400 = 0 then (M, -1) else (var (gfM M o u (cl x) (cl b) y) (cl x) (-(rtO y 20 1 0)), asQ ((gfM M o u (cl x) (cl b) y).1 6 (cl x) + -(rtO y 20 1 0)))
set_option maxRecDepth 100000 in
set_option maxHeartbeats 4000000 in
theorem c_X6_gift {κ : KX} {M : MM} {Q : Option Value → va_W → Prop} {g o u : Nat} {x b y : Int32} (hg : M.1 1 2 = nI g) (h6 : g ≤ 6) (ho : M.1 9 1 = nI o) (hu : M.1 9 2 = nI u) (h8 : o < 8) (hu8 : u ≤ 8) (hQ : Q (some (.int (sGf M g o u x b y).2)) (wM κ ((sGf M g o u x b y).1))) : CT κ (4, 0, 0) mX6_gift [rv κ 0, .int x, .int b, .int y] (wM κ M) Q := by
  refine CT.of okX6_gift [some (rv κ 0), some (.int x), some (.int b), some (.int y)] (Nat.le_of_ble_eq_true rfl) rfl ?_
  refine wp_rload_0 dX6_gift_0 ?_
  refine wp_getR (t := 1) fX6_10 dX6_gift_1 kd_0 rfl (rf_0_0) ?_
  refine wp_iload_1 dX6_gift_4 ?_
  refine wp_callV_1 kX6_85 dX6_gift_5 kd_1 rfl (c_X4_isWall hg h6 ?_) ⟨Nat.le_of_ble_eq_true rfl, Nat.le_of_ble_eq_true rfl, Nat.le_of_ble_eq_true rfl⟩ (Nat.le_of_ble_eq_true rfl)
  refine wp_if_eq (tgt := 31) dX6_gift_8 rfl (fun c8 => ?_) (fun c8 => ?_)
  · refine wp_iconst (v := (-1)) dX6_gift_31 rfl ?_
    refine wp_iret dX6_gift_32 rfl rfl ?_
    first
      | (rw [sGf, if_pos c8] at hQ; exact hQ)
      | (rw [if_pos c17] at hQ; exact hQ)
      | (rw [if_pos c28] at hQ; exact hQ)
  · obtain ⟨w, hw, rfl⟩ := upto_of c8 (by omega)
    rw [sGf, if_neg c8, cl_nI (by omega)] at hQ
    refine wp_iload_2 dX6_gift_11 ?_
    refine wp_iconst (v := 0) dX6_gift_12 rfl ?_
    refine wp_iconst (v := 1) dX6_gift_13 rfl ?_
    refine wp_callS_3 kX6_46 dX6_gift_14 (c_X6_within ?_) ⟨Nat.le_of_ble_eq_true rfl, Nat.le_of_ble_eq_true rfl, Nat.le_of_ble_eq_true rfl⟩ (Nat.le_of_ble_eq_true rfl)
    refine wp_if_eq (tgt := 31) dX6_gift_17 rfl (fun c17 => ?_) (fun c17 => ?_)
    · refine wp_iconst (v := (-1)) dX6_gift_31 rfl ?_
      refine wp_iret dX6_gift_32 rfl rfl ?_
      first
        | (rw [sGf, if_pos c8] at hQ; exact hQ)
        | (rw [if_pos c17] at hQ; exact hQ)
        | (rw [if_pos c28] at hQ; exact hQ)
    · obtain ⟨b2, hb1, hb2, rfl⟩ := rng_of (a := 0) (b := 1) c17 (by decide) (by decide)
      rw [if_neg c17, cl_nI (by omega)] at hQ
      refine wp_iload_3 dX6_gift_20 ?_
      refine wp_iconst (v := 1) dX6_gift_21 rfl ?_
      refine wp_sipush (v := 400) dX6_gift_22 rfl ?_
      refine wp_callS_3 kX6_46 dX6_gift_25 (c_X6_within ?_) ⟨Nat.le_of_ble_eq_true rfl, Nat.le_of_ble_eq_true rfl, Nat.le_of_ble_eq_true rfl⟩ (Nat.le_of_ble_eq_true rfl)
      refine wp_if_ne (tgt := 33) dX6_gift_28 rfl (fun c28 => ?_) (fun c28 => ?_)
      · refine wp_rload_0 dX6_gift_33 ?_
        refine wp_getR (t := 1) fX6_10 dX6_gift_34 kd_0 rfl (rf_0_0) ?_
        refine wp_callV_0 kX6_149 dX6_gift_37 kd_1 rfl (c_X4_remember ho hu h8 hu8 ?_) ⟨Nat.le_of_ble_eq_true rfl, Nat.le_of_ble_eq_true rfl, Nat.le_of_ble_eq_true rfl⟩ (Nat.le_of_ble_eq_true rfl)
        refine wp_rload_0 dX6_gift_40 ?_
        refine wp_getR (t := 1) fX6_10 dX6_gift_41 kd_0 rfl (rf_0_0) ?_
        refine wp_getR (t := 4) fX6_69 dX6_gift_44 kd_1 rfl (rf_1_5) ?_
        refine wp_getR (t := 8) fX6_73 dX6_gift_47 kd_4 rfl (rf_4_3) ?_
        refine wp_iload_1 dX6_gift_50 ?_
        refine wp_iload_2 dX6_gift_51 ?_
        refine wp_iadd dX6_gift_52 ?_
        refine wp_dup2_iv dX6_gift_53 ?_
        refine wp_ald (j := (w + b2)) dX6_gift_54 ar_8 (nI_add _ _) (by omega) ?_
        refine wp_iload_3 dX6_gift_55 ?_
        refine wp_iadd dX6_gift_56 ?_
        refine wp_ast (j := (w + b2)) dX6_gift_57 ar_8 (nI_add _ _) (by omega) ?_
        refine wp_rload_0 dX6_gift_58 ?_
        refine wp_getR (t := 1) fX6_10 dX6_gift_59 kd_0 rfl (rf_0_0) ?_
        refine wp_iload_1 dX6_gift_62 ?_
        refine wp_iload_3 dX6_gift_63 ?_
        refine wp_callS_1 kX6_158 dX6_gift_64 (c_X6_rootOf ?_) ⟨Nat.le_of_ble_eq_true rfl, Nat.le_of_ble_eq_true rfl, Nat.le_of_ble_eq_true rfl⟩ (Nat.le_of_ble_eq_true rfl)
        refine wp_ineg dX6_gift_67 ?_
        refine wp_callV_2 kX6_161 dX6_gift_68 kd_1 rfl (c_X4_vary (M := gfM M o u w b2 y) (by omega) ?_) ⟨Nat.le_of_ble_eq_true rfl, Nat.le_of_ble_eq_true rfl, Nat.le_of_ble_eq_true rfl⟩ (Nat.le_of_ble_eq_true rfl)
        refine wp_iret dX6_gift_71 rfl rfl ?_
        rw [if_neg c28] at hQ
        exact hQ
      · refine wp_iconst (v := (-1)) dX6_gift_31 rfl ?_
        refine wp_iret dX6_gift_32 rfl rfl ?_
        first
          | (rw [sGf, if_pos c8] at hQ; exact hQ)
          | (rw [if_pos c17] at hQ; exact hQ)
          | (rw [if_pos c28] at hQ; exact hQ)
def sGo (M : MM) (g o u : Nat) (x y : Int32) : MM × Int32 := if wi x 0 (nI (g - 1) - 1) = 0 then (M, -1) else if wi y 1 9 = 0 then (M, -1) else (var (adS o u M) (cl x) y, asQ ((adS o u M).1 6 (cl x) + y))
set_option maxRecDepth 100000 in
set_option maxHeartbeats 4000000 in
theorem c_X6_gossip {κ : KX} {M : MM} {Q : Option Value → va_W → Prop} {g o u : Nat} {x y : Int32} (hg : M.1 1 2 = nI g) (h6 : g ≤ 6) (ho : M.1 9 1 = nI o) (hu : M.1 9 2 = nI u) (h8 : o < 8) (hu8 : u ≤ 8) (hQ : Q (some (.int (sGo M g o u x y).2)) (wM κ ((sGo M g o u x y).1))) : CT κ (4, 0, 0) mX6_gossip [rv κ 0, .int x, .int y] (wM κ M) Q := by
  refine CT.of okX6_gossip [some (rv κ 0), some (.int x), some (.int y)] (Nat.le_of_ble_eq_true rfl) rfl ?_
  refine wp_rload_0 dX6_gossip_0 ?_
  refine wp_getR (t := 1) fX6_10 dX6_gossip_1 kd_0 rfl (rf_0_0) ?_
  refine wp_iload_1 dX6_gossip_4 ?_
  refine wp_callV_1 kX6_85 dX6_gossip_5 kd_1 rfl (c_X4_isWall hg h6 ?_) ⟨Nat.le_of_ble_eq_true rfl, Nat.le_of_ble_eq_true rfl, Nat.le_of_ble_eq_true rfl⟩ (Nat.le_of_ble_eq_true rfl)
  refine wp_if_eq (tgt := 21) dX6_gossip_8 rfl (fun c8 => ?_) (fun c8 => ?_)
  · refine wp_iconst (v := (-1)) dX6_gossip_21 rfl ?_
    refine wp_iret dX6_gossip_22 rfl rfl ?_
    first
      | (rw [sGo, if_pos c8] at hQ; exact hQ)
      | (rw [if_pos c18] at hQ; exact hQ)
  · obtain ⟨w, hw, rfl⟩ := upto_of c8 (by omega)
    rw [sGo, if_neg c8, cl_nI (by omega)] at hQ
    refine wp_iload_2 dX6_gossip_11 ?_
    refine wp_iconst (v := 1) dX6_gossip_12 rfl ?_
    refine wp_bipush (v := 9) dX6_gossip_13 rfl ?_
    refine wp_callS_3 kX6_46 dX6_gossip_15 (c_X6_within ?_) ⟨Nat.le_of_ble_eq_true rfl, Nat.le_of_ble_eq_true rfl, Nat.le_of_ble_eq_true rfl⟩ (Nat.le_of_ble_eq_true rfl)
    refine wp_if_ne (tgt := 23) dX6_gossip_18 rfl (fun c18 => ?_) (fun c18 => ?_)
    · refine wp_rload_0 dX6_gossip_23 ?_
      refine wp_getR (t := 1) fX6_10 dX6_gossip_24 kd_0 rfl (rf_0_0) ?_
      refine wp_callV_0 kX6_149 dX6_gossip_27 kd_1 rfl (c_X4_remember ho hu h8 hu8 ?_) ⟨Nat.le_of_ble_eq_true rfl, Nat.le_of_ble_eq_true rfl, Nat.le_of_ble_eq_true rfl⟩ (Nat.le_of_ble_eq_true rfl)
      refine wp_rload_0 dX6_gossip_30 ?_
      refine wp_getR (t := 1) fX6_10 dX6_gossip_31 kd_0 rfl (rf_0_0) ?_
      refine wp_iload_1 dX6_gossip_34 ?_
      refine wp_iload_2 dX6_gossip_35 ?_
      refine wp_callV_2 kX6_161 dX6_gossip_36 kd_1 rfl (c_X4_vary (by omega) ?_) ⟨Nat.le_of_ble_eq_true rfl, Nat.le_of_ble_eq_true rfl, Nat.le_of_ble_eq_true rfl⟩ (Nat.le_of_ble_eq_true rfl)
      refine wp_iret dX6_gossip_39 rfl rfl ?_
      rw [if_neg c18] at hQ
      exact hQ
    · refine wp_iconst (v := (-1)) dX6_gossip_21 rfl ?_
      refine wp_iret dX6_gossip_22 rfl rfl ?_
      first
        | (rw [sGo, if_pos c8] at hQ; exact hQ)
        | (rw [if_pos c18] at hQ; exact hQ)
def sLv (M : MM) (g o u : Nat) (x : Int32) : MM × Int32 := if wi x 0 (nI (g - 1) - 1) = 0 then (M, -1) else if 0 < M.1 5 (cl x) then (sI (adS o u M) 5 (cl x) ((adS o u M).1 5 (cl x) - 1), (adS o u M).1 5 (cl x) - 1) else (M, -2)
set_option maxRecDepth 100000 in
set_option maxHeartbeats 4000000 in
theorem c_X6_lovers {κ : KX} {M : MM} {Q : Option Value → va_W → Prop} {g o u : Nat} {x : Int32} (hg : M.1 1 2 = nI g) (h6 : g ≤ 6) (ho : M.1 9 1 = nI o) (hu : M.1 9 2 = nI u) (h8 : o < 8) (hu8 : u ≤ 8) (hQ : Q (some (.int (sLv M g o u x).2)) (wM κ ((sLv M g o u x).1))) : CT κ (4, 0, 0) mX6_lovers [rv κ 0, .int x] (wM κ M) Q := by
  refine CT.of okX6_lovers [some (rv κ 0), some (.int x)] (Nat.le_of_ble_eq_true rfl) rfl ?_
  refine wp_rload_0 dX6_lovers_0 ?_
  refine wp_getR (t := 1) fX6_10 dX6_lovers_1 kd_0 rfl (rf_0_0) ?_
  refine wp_iload_1 dX6_lovers_4 ?_
  refine wp_callV_1 kX6_85 dX6_lovers_5 kd_1 rfl (c_X4_isWall hg h6 ?_) ⟨Nat.le_of_ble_eq_true rfl, Nat.le_of_ble_eq_true rfl, Nat.le_of_ble_eq_true rfl⟩ (Nat.le_of_ble_eq_true rfl)
  refine wp_if_ne (tgt := 13) dX6_lovers_8 rfl (fun c8 => ?_) (fun c8 => ?_)
  · obtain ⟨w, hw, rfl⟩ := upto_of c8 (by omega)
    rw [sLv, if_neg c8, cl_nI (by omega)] at hQ
    refine wp_rload_0 dX6_lovers_13 ?_
    refine wp_getR (t := 1) fX6_10 dX6_lovers_14 kd_0 rfl (rf_0_0) ?_
    refine wp_getR (t := 4) fX6_69 dX6_lovers_17 kd_1 rfl (rf_1_5) ?_
    refine wp_getR (t := 5) fX6_88 dX6_lovers_20 kd_4 rfl (rf_4_0) ?_
    refine wp_iload_1 dX6_lovers_23 ?_
    refine wp_ald (j := w) dX6_lovers_24 ar_5 (rfl) (by omega) ?_
    refine wp_if_gt (tgt := 31) dX6_lovers_25 rfl (fun c25 => ?_) (fun c25 => ?_)
    · refine wp_rload_0 dX6_lovers_31 ?_
      refine wp_getR (t := 1) fX6_10 dX6_lovers_32 kd_0 rfl (rf_0_0) ?_
      refine wp_callV_0 kX6_149 dX6_lovers_35 kd_1 rfl (c_X4_remember ho hu h8 hu8 ?_) ⟨Nat.le_of_ble_eq_true rfl, Nat.le_of_ble_eq_true rfl, Nat.le_of_ble_eq_true rfl⟩ (Nat.le_of_ble_eq_true rfl)
      refine wp_rload_0 dX6_lovers_38 ?_
      refine wp_getR (t := 1) fX6_10 dX6_lovers_39 kd_0 rfl (rf_0_0) ?_
      refine wp_getR (t := 4) fX6_69 dX6_lovers_42 kd_1 rfl (rf_1_5) ?_
      refine wp_getR (t := 5) fX6_88 dX6_lovers_45 kd_4 rfl (rf_4_0) ?_
      refine wp_iload_1 dX6_lovers_48 ?_
      refine wp_dup2_iv dX6_lovers_49 ?_
      refine wp_ald (j := w) dX6_lovers_50 ar_5 (rfl) (by omega) ?_
      refine wp_iconst (v := 1) dX6_lovers_51 rfl ?_
      refine wp_isub dX6_lovers_52 ?_
      refine wp_ast (j := w) dX6_lovers_53 ar_5 (rfl) (by omega) ?_
      refine wp_rload_0 dX6_lovers_54 ?_
      refine wp_getR (t := 1) fX6_10 dX6_lovers_55 kd_0 rfl (rf_0_0) ?_
      refine wp_getR (t := 4) fX6_69 dX6_lovers_58 kd_1 rfl (rf_1_5) ?_
      refine wp_getR (t := 5) fX6_88 dX6_lovers_61 kd_4 rfl (rf_4_0) ?_
      refine wp_iload_1 dX6_lovers_64 ?_
      refine wp_ald (j := w) dX6_lovers_65 ar_5 (rfl) (by omega) ?_
      refine wp_iret dX6_lovers_66 rfl rfl ?_
      rw [if_pos c25] at hQ
      exact Qe hQ (sI_same _ _ _ _) rfl
    · refine wp_bipush (v := (-2)) dX6_lovers_28 rfl ?_
      refine wp_iret dX6_lovers_30 rfl rfl ?_
      rw [if_neg c25] at hQ
      exact hQ
  · refine wp_iconst (v := (-1)) dX6_lovers_11 rfl ?_
    refine wp_iret dX6_lovers_12 rfl rfl ?_
    rw [sLv, if_pos c8] at hQ
    exact hQ
def sFl (M : MM) (g o u : Nat) (x : Int32) : MM × Int32 := if wi x 0 (nI (g - 1) - 1) = 0 then (M, -1) else if 0 < M.1 5 (cl x) then (clp (adS o u M) (cl x), (adS o u M).1 5 (cl x)) else (M, -2)
set_option maxRecDepth 100000 in
set_option maxHeartbeats 4000000 in
theorem c_X6_falls {κ : KX} {M : MM} {Q : Option Value → va_W → Prop} {g o u : Nat} {x : Int32} (hg : M.1 1 2 = nI g) (h6 : g ≤ 6) (ho : M.1 9 1 = nI o) (hu : M.1 9 2 = nI u) (h8 : o < 8) (hu8 : u ≤ 8) (hQ : Q (some (.int (sFl M g o u x).2)) (wM κ ((sFl M g o u x).1))) : CT κ (4, 0, 0) mX6_falls [rv κ 0, .int x] (wM κ M) Q := by
  refine CT.of okX6_falls [some (rv κ 0), some (.int x)] (Nat.le_of_ble_eq_true rfl) rfl ?_
  refine wp_rload_0 dX6_falls_0 ?_
  refine wp_getR (t := 1) fX6_10 dX6_falls_1 kd_0 rfl (rf_0_0) ?_
  refine wp_iload_1 dX6_falls_4 ?_
  refine wp_callV_1 kX6_85 dX6_falls_5 kd_1 rfl (c_X4_isWall hg h6 ?_) ⟨Nat.le_of_ble_eq_true rfl, Nat.le_of_ble_eq_true rfl, Nat.le_of_ble_eq_true rfl⟩ (Nat.le_of_ble_eq_true rfl)
  refine wp_if_ne (tgt := 13) dX6_falls_8 rfl (fun c8 => ?_) (fun c8 => ?_)
  · obtain ⟨w, hw, rfl⟩ := upto_of c8 (by omega)
    rw [sFl, if_neg c8, cl_nI (by omega)] at hQ
    refine wp_rload_0 dX6_falls_13 ?_
    refine wp_getR (t := 1) fX6_10 dX6_falls_14 kd_0 rfl (rf_0_0) ?_
    refine wp_getR (t := 4) fX6_69 dX6_falls_17 kd_1 rfl (rf_1_5) ?_
    refine wp_getR (t := 5) fX6_88 dX6_falls_20 kd_4 rfl (rf_4_0) ?_
    refine wp_iload_1 dX6_falls_23 ?_
    refine wp_ald (j := w) dX6_falls_24 ar_5 (rfl) (by omega) ?_
    refine wp_if_gt (tgt := 31) dX6_falls_25 rfl (fun c25 => ?_) (fun c25 => ?_)
    · refine wp_rload_0 dX6_falls_31 ?_
      refine wp_getR (t := 1) fX6_10 dX6_falls_32 kd_0 rfl (rf_0_0) ?_
      refine wp_callV_0 kX6_149 dX6_falls_35 kd_1 rfl (c_X4_remember ho hu h8 hu8 ?_) ⟨Nat.le_of_ble_eq_true rfl, Nat.le_of_ble_eq_true rfl, Nat.le_of_ble_eq_true rfl⟩ (Nat.le_of_ble_eq_true rfl)
      refine wp_rload_0 dX6_falls_38 ?_
      refine wp_getR (t := 1) fX6_10 dX6_falls_39 kd_0 rfl (rf_0_0) ?_
      refine wp_iload_1 dX6_falls_42 ?_
      refine wp_callV_1 kX6_164 dX6_falls_43 kd_1 rfl (c_X4_collapse (by omega) ?_) ⟨Nat.le_of_ble_eq_true rfl, Nat.le_of_ble_eq_true rfl, Nat.le_of_ble_eq_true rfl⟩ (Nat.le_of_ble_eq_true rfl)
      refine wp_iret dX6_falls_46 rfl rfl ?_
      rw [if_pos c25] at hQ
      exact hQ
    · refine wp_bipush (v := (-2)) dX6_falls_28 rfl ?_
      refine wp_iret dX6_falls_30 rfl rfl ?_
      rw [if_neg c25] at hQ
      exact hQ
  · refine wp_iconst (v := (-1)) dX6_falls_11 rfl ?_
    refine wp_iret dX6_falls_12 rfl rfl ?_
    rw [sFl, if_pos c8] at hQ
    exact hQ
def sUn (M : MM) (o u : Nat) : MM × Int32 := if u = 0 then (M, -4) else (gvS o (u - 1) M, nI (u - 1))
set_option maxRecDepth 100000 in
set_option maxHeartbeats 4000000 in
theorem c_X6_undo {κ : KX} {M : MM} {Q : Option Value → va_W → Prop} {o u : Nat} (ho : M.1 9 1 = nI o) (hu : M.1 9 2 = nI u) (h8 : o < 8) (hu8 : u ≤ 8) (hQ : Q (some (.int (sUn M o u).2)) (wM κ ((sUn M o u).1))) : CT κ (3, 0, 0) mX6_undo [rv κ 0] (wM κ M) Q := by
  refine CT.of okX6_undo [some (rv κ 0)] (Nat.le_of_ble_eq_true rfl) rfl ?_
  refine wp_rload_0 dX6_undo_0 ?_
  refine wp_getR (t := 1) fX6_10 dX6_undo_1 kd_0 rfl (rf_0_0) ?_
  refine wp_getR (t := 9) fX6_137 dX6_undo_4 kd_1 rfl (rf_1_6) ?_
  refine wp_getI fX6_141 dX6_undo_7 kd_9 rfl ?_
  rw [hu]
  refine wp_if_gt (tgt := 16) dX6_undo_10 rfl (fun c10 => ?_) (fun c10 => ?_)
  · have hu0 : ¬ u = 0 := fun e => by
      rw [e] at c10
      exact absurd c10 (by decide)
    rw [sUn, if_neg hu0] at hQ
    refine wp_rload_0 dX6_undo_16 ?_
    refine wp_getR (t := 1) fX6_10 dX6_undo_17 kd_0 rfl (rf_0_0) ?_
    refine wp_getR (t := 9) fX6_137 dX6_undo_20 kd_1 rfl (rf_1_6) ?_
    refine wp_rload_0 dX6_undo_23 ?_
    refine wp_getR (t := 1) fX6_10 dX6_undo_24 kd_0 rfl (rf_0_0) ?_
    refine wp_getR (t := 4) fX6_69 dX6_undo_27 kd_1 rfl (rf_1_5) ?_
    refine wp_callV_1 kX6_170 dX6_undo_30 kd_9 rfl (c_X1_giveBack ho (by rw [hu, show u - 1 + 1 = u by omega]) h8 (by omega) ?_) ⟨Nat.le_of_ble_eq_true rfl, Nat.le_of_ble_eq_true rfl, Nat.le_of_ble_eq_true rfl⟩ (Nat.le_of_ble_eq_true rfl)
    refine wp_iret dX6_undo_33 rfl rfl ?_
    exact hQ
  · refine wp_bipush (v := (-4)) dX6_undo_13 rfl ?_
    refine wp_iret dX6_undo_15 rfl rfl ?_
    have hu0 : u = 0 := by
      rcases Nat.eq_zero_or_pos u with e | e
      · exact e
      · exact absurd (nI_lt (a := 0) e (by omega)) c10
    rw [sUn, if_pos hu0] at hQ
    exact hQ
def sSd (M : MM) (x : Int32) : MM × Int32 := if 0 ≤ x then (sI M 4 5 x, M.1 4 5) else (M, -1)
set_option maxRecDepth 100000 in
set_option maxHeartbeats 4000000 in
theorem c_X6_seed {κ : KX} {M : MM} {Q : Option Value → va_W → Prop} {x : Int32}  (hQ : Q (some (.int (sSd M x).2)) (wM κ ((sSd M x).1))) : CT κ (0, 0, 0) mX6_seed [rv κ 0, .int x] (wM κ M) Q := by
  refine CT.of okX6_seed [some (rv κ 0), some (.int x), none] (Nat.le_of_ble_eq_true rfl) rfl ?_
  refine wp_iload_1 dX6_seed_0 ?_
  refine wp_if_ge (tgt := 6) dX6_seed_1 rfl (fun c1 => ?_) (fun c1 => ?_)
  · refine wp_rload_0 dX6_seed_6 ?_
    refine wp_getR (t := 1) fX6_10 dX6_seed_7 kd_0 rfl (rf_0_0) ?_
    refine wp_getR (t := 4) fX6_69 dX6_seed_10 kd_1 rfl (rf_1_5) ?_
    refine wp_getI fX6_174 dX6_seed_13 kd_4 rfl ?_
    refine wp_istore_2 dX6_seed_16 (Nat.le_of_ble_eq_true rfl) rfl ?_
    refine wp_rload_0 dX6_seed_17 ?_
    refine wp_getR (t := 1) fX6_10 dX6_seed_18 kd_0 rfl (rf_0_0) ?_
    refine wp_getR (t := 4) fX6_69 dX6_seed_21 kd_1 rfl (rf_1_5) ?_
    refine wp_iload_1 dX6_seed_24 ?_
    refine wp_putI fX6_174 dX6_seed_25 kd_4 rfl rfl ?_
    refine wp_iload_2 dX6_seed_28 ?_
    refine wp_iret dX6_seed_29 rfl rfl ?_
    first
      | (rw [sSd, if_pos c1] at hQ; exact hQ)
      | (rw [sSd, if_neg c1] at hQ; exact hQ)
  · refine wp_iconst (v := (-1)) dX6_seed_4 rfl ?_
    refine wp_iret dX6_seed_5 rfl rfl ?_
    first
      | (rw [sSd, if_pos c1] at hQ; exact hQ)
      | (rw [sSd, if_neg c1] at hQ; exact hQ)
def sAh (M : MM) (g : Nat) (x y wh : Int32) : Int32 := if ¬ x = -4 ∧ wi x 0 (nI (g - 1) - 1) = 0 then -1 else if wi y 0 104 = 0 then -1 else if wi wh 0 1 = 0 then -1 else if x = -4 then abh M y wh (g - 1) else bhd M (cl x) y wh
set_option maxRecDepth 100000 in
set_option maxHeartbeats 4000000 in
theorem x_X6_ahead1 {κ : KX} {M : MM} {Q : Option Value → va_W → Prop} {g : Nat} {x y wh : Int32} (hg : M.1 1 2 = nI g) (h6 : g ≤ 6) (hy : 0 < M.1 1 3) (c3 : x = -4) (hQ : Q (some (.int (sAh M g x y wh))) (wM κ M)) : WP κ (5, 0, 0) mX6_ahead 13 [some (rv κ 0), some (.int x), some (.int y), some (.int wh), some (.int 1)] [] (wM κ M) (0, 0) Q := by
  refine wp_iload_4 dX6_ahead_13 ?_
  refine wp_if_ne (tgt := 29) dX6_ahead_15 rfl (fun c15 => ?_) (fun c15 => absurd c15 (by decide))
  refine wp_iload_2 dX6_ahead_29 ?_
  refine wp_iconst (v := 0) dX6_ahead_30 rfl ?_
  refine wp_bipush (v := 104) dX6_ahead_31 rfl ?_
  refine wp_callS_3 kX6_46 dX6_ahead_33 (c_X6_within ?_) ⟨Nat.le_of_ble_eq_true rfl, Nat.le_of_ble_eq_true rfl, Nat.le_of_ble_eq_true rfl⟩ (Nat.le_of_ble_eq_true rfl)
  refine wp_if_eq (tgt := 48) dX6_ahead_36 rfl (fun c36 => ?_) (fun c36 => ?_)
  · refine wp_iconst (v := (-1)) dX6_ahead_48 rfl ?_
    refine wp_iret dX6_ahead_49 rfl rfl ?_
    first
      | (rw [sAh, if_neg (fun q => q.1 c3), if_pos c36] at hQ; exact hQ)
      | (rw [sAh, if_neg (fun q => q.1 c3), if_neg c36, if_pos c45] at hQ; exact hQ)
      | (rw [sAh, if_neg (fun q => q.1 c3), if_neg c36, if_neg c45, if_pos c3] at hQ; exact hQ)
  · refine wp_iload_3 dX6_ahead_39 ?_
    refine wp_iconst (v := 0) dX6_ahead_40 rfl ?_
    refine wp_iconst (v := 1) dX6_ahead_41 rfl ?_
    refine wp_callS_3 kX6_46 dX6_ahead_42 (c_X6_within ?_) ⟨Nat.le_of_ble_eq_true rfl, Nat.le_of_ble_eq_true rfl, Nat.le_of_ble_eq_true rfl⟩ (Nat.le_of_ble_eq_true rfl)
    refine wp_if_ne (tgt := 50) dX6_ahead_45 rfl (fun c45 => ?_) (fun c45 => ?_)
    · refine wp_iload_4 dX6_ahead_50 ?_
      refine wp_if_eq (tgt := 67) dX6_ahead_52 rfl (fun c52 => absurd c52 (by decide)) (fun c52 => ?_)
      refine wp_rload_0 dX6_ahead_55 ?_
      refine wp_getR (t := 101) fX6_28 dX6_ahead_56 kd_0 rfl (rf_0_3) ?_
      refine wp_iload_2 dX6_ahead_59 ?_
      refine wp_iload_3 dX6_ahead_60 ?_
      refine wp_callV_2 kX6_177 dX6_ahead_61 kd_101 rfl (c_X0_allBehind hg h6 hy ?_) ⟨Nat.le_of_ble_eq_true rfl, Nat.le_of_ble_eq_true rfl, Nat.le_of_ble_eq_true rfl⟩ (Nat.le_of_ble_eq_true rfl)
      refine wp_goto (tgt := 77) dX6_ahead_64 rfl ?_
      refine wp_iret dX6_ahead_77 rfl rfl ?_
      first
        | (rw [sAh, if_neg (fun q => q.1 c3), if_pos c36] at hQ; exact hQ)
        | (rw [sAh, if_neg (fun q => q.1 c3), if_neg c36, if_pos c45] at hQ; exact hQ)
        | (rw [sAh, if_neg (fun q => q.1 c3), if_neg c36, if_neg c45, if_pos c3] at hQ; exact hQ)
    · refine wp_iconst (v := (-1)) dX6_ahead_48 rfl ?_
      refine wp_iret dX6_ahead_49 rfl rfl ?_
      first
        | (rw [sAh, if_neg (fun q => q.1 c3), if_pos c36] at hQ; exact hQ)
        | (rw [sAh, if_neg (fun q => q.1 c3), if_neg c36, if_pos c45] at hQ; exact hQ)
        | (rw [sAh, if_neg (fun q => q.1 c3), if_neg c36, if_neg c45, if_pos c3] at hQ; exact hQ)
set_option maxRecDepth 100000 in
set_option maxHeartbeats 4000000 in
theorem x_X6_ahead0 {κ : KX} {M : MM} {Q : Option Value → va_W → Prop} {g : Nat} {x y wh : Int32} (hg : M.1 1 2 = nI g) (h6 : g ≤ 6) (hy : 0 < M.1 1 3) (c3 : ¬ x = -4) (hQ : Q (some (.int (sAh M g x y wh))) (wM κ M)) : WP κ (5, 0, 0) mX6_ahead 13 [some (rv κ 0), some (.int x), some (.int y), some (.int wh), some (.int 0)] [] (wM κ M) (0, 0) Q := by
  refine wp_iload_4 dX6_ahead_13 ?_
  refine wp_if_ne (tgt := 29) dX6_ahead_15 rfl (fun c15 => absurd (rfl) c15) (fun c15 => ?_)
  refine wp_rload_0 dX6_ahead_18 ?_
  refine wp_getR (t := 1) fX6_10 dX6_ahead_19 kd_0 rfl (rf_0_0) ?_
  refine wp_iload_1 dX6_ahead_22 ?_
  refine wp_callV_1 kX6_85 dX6_ahead_23 kd_1 rfl (c_X4_isWall hg h6 ?_) ⟨Nat.le_of_ble_eq_true rfl, Nat.le_of_ble_eq_true rfl, Nat.le_of_ble_eq_true rfl⟩ (Nat.le_of_ble_eq_true rfl)
  refine wp_if_eq (tgt := 48) dX6_ahead_26 rfl (fun c26 => ?_) (fun c26 => ?_)
  · refine wp_iconst (v := (-1)) dX6_ahead_48 rfl ?_
    refine wp_iret dX6_ahead_49 rfl rfl ?_
    first
      | (rw [sAh, if_neg (fun q => c26 q.2), if_pos c36] at hQ; exact hQ)
      | (rw [sAh, if_neg (fun q => c26 q.2), if_neg c36, if_pos c45] at hQ; exact hQ)
      | (rw [sAh, if_neg (fun q => c26 q.2), if_neg c36, if_neg c45, if_neg c3, cl_nI (by omega)] at hQ; exact hQ)
      | (rw [sAh, if_pos ⟨c3, c26⟩] at hQ; exact hQ)
  · obtain ⟨w, hw, rfl⟩ := upto_of c26 (by omega)
    refine wp_iload_2 dX6_ahead_29 ?_
    refine wp_iconst (v := 0) dX6_ahead_30 rfl ?_
    refine wp_bipush (v := 104) dX6_ahead_31 rfl ?_
    refine wp_callS_3 kX6_46 dX6_ahead_33 (c_X6_within ?_) ⟨Nat.le_of_ble_eq_true rfl, Nat.le_of_ble_eq_true rfl, Nat.le_of_ble_eq_true rfl⟩ (Nat.le_of_ble_eq_true rfl)
    refine wp_if_eq (tgt := 48) dX6_ahead_36 rfl (fun c36 => ?_) (fun c36 => ?_)
    · refine wp_iconst (v := (-1)) dX6_ahead_48 rfl ?_
      refine wp_iret dX6_ahead_49 rfl rfl ?_
      first
        | (rw [sAh, if_neg (fun q => c26 q.2), if_pos c36] at hQ; exact hQ)
        | (rw [sAh, if_neg (fun q => c26 q.2), if_neg c36, if_pos c45] at hQ; exact hQ)
        | (rw [sAh, if_neg (fun q => c26 q.2), if_neg c36, if_neg c45, if_neg c3, cl_nI (by omega)] at hQ; exact hQ)
        | (rw [sAh, if_pos ⟨c3, c26⟩] at hQ; exact hQ)
    · refine wp_iload_3 dX6_ahead_39 ?_
      refine wp_iconst (v := 0) dX6_ahead_40 rfl ?_
      refine wp_iconst (v := 1) dX6_ahead_41 rfl ?_
      refine wp_callS_3 kX6_46 dX6_ahead_42 (c_X6_within ?_) ⟨Nat.le_of_ble_eq_true rfl, Nat.le_of_ble_eq_true rfl, Nat.le_of_ble_eq_true rfl⟩ (Nat.le_of_ble_eq_true rfl)
      refine wp_if_ne (tgt := 50) dX6_ahead_45 rfl (fun c45 => ?_) (fun c45 => ?_)
      · refine wp_iload_4 dX6_ahead_50 ?_
        refine wp_if_eq (tgt := 67) dX6_ahead_52 rfl (fun c52 => ?_) (fun c52 => absurd (rfl) c52)
        refine wp_rload_0 dX6_ahead_67 ?_
        refine wp_getR (t := 101) fX6_28 dX6_ahead_68 kd_0 rfl (rf_0_3) ?_
        refine wp_iload_1 dX6_ahead_71 ?_
        refine wp_iload_2 dX6_ahead_72 ?_
        refine wp_iload_3 dX6_ahead_73 ?_
        refine wp_callV_3 kX6_180 dX6_ahead_74 kd_101 rfl (c_X0_behind (by omega) hy ?_) ⟨Nat.le_of_ble_eq_true rfl, Nat.le_of_ble_eq_true rfl, Nat.le_of_ble_eq_true rfl⟩ (Nat.le_of_ble_eq_true rfl)
        refine wp_iret dX6_ahead_77 rfl rfl ?_
        first
          | (rw [sAh, if_neg (fun q => c26 q.2), if_pos c36] at hQ; exact hQ)
          | (rw [sAh, if_neg (fun q => c26 q.2), if_neg c36, if_pos c45] at hQ; exact hQ)
          | (rw [sAh, if_neg (fun q => c26 q.2), if_neg c36, if_neg c45, if_neg c3, cl_nI (by omega)] at hQ; exact hQ)
          | (rw [sAh, if_pos ⟨c3, c26⟩] at hQ; exact hQ)
      · refine wp_iconst (v := (-1)) dX6_ahead_48 rfl ?_
        refine wp_iret dX6_ahead_49 rfl rfl ?_
        first
          | (rw [sAh, if_neg (fun q => c26 q.2), if_pos c36] at hQ; exact hQ)
          | (rw [sAh, if_neg (fun q => c26 q.2), if_neg c36, if_pos c45] at hQ; exact hQ)
          | (rw [sAh, if_neg (fun q => c26 q.2), if_neg c36, if_neg c45, if_neg c3, cl_nI (by omega)] at hQ; exact hQ)
          | (rw [sAh, if_pos ⟨c3, c26⟩] at hQ; exact hQ)
set_option maxRecDepth 100000 in
set_option maxHeartbeats 4000000 in
theorem c_X6_ahead {κ : KX} {M : MM} {Q : Option Value → va_W → Prop} {g : Nat} {x y wh : Int32} (hg : M.1 1 2 = nI g) (h6 : g ≤ 6) (hy : 0 < M.1 1 3) (hQ : Q (some (.int (sAh M g x y wh))) (wM κ M)) : CT κ (5, 0, 0) mX6_ahead [rv κ 0, .int x, .int y, .int wh] (wM κ M) Q := by
  refine CT.of okX6_ahead [some (rv κ 0), some (.int x), some (.int y), some (.int wh), none] (Nat.le_of_ble_eq_true rfl) rfl ?_
  refine wp_iload_1 dX6_ahead_0 ?_
  refine wp_bipush (v := (-4)) dX6_ahead_1 rfl ?_
  refine wp_icmp_ne (tgt := 10) dX6_ahead_3 rfl (fun c3 => ?_) (fun c3 => ?_)
  · refine wp_iconst (v := 0) dX6_ahead_10 rfl ?_
    refine wp_istore_4 dX6_ahead_11 (Nat.le_of_ble_eq_true rfl) rfl ?_
    exact x_X6_ahead0 hg h6 hy c3 hQ
  · refine wp_iconst (v := 1) dX6_ahead_6 rfl ?_
    refine wp_goto (tgt := 11) dX6_ahead_7 rfl ?_
    refine wp_istore_4 dX6_ahead_11 (Nat.le_of_ble_eq_true rfl) rfl ?_
    exact x_X6_ahead1 hg h6 hy c3 hQ
set_option maxRecDepth 100000 in
set_option maxHeartbeats 4000000 in
theorem c_X6_settles {κ : KX} {M : MM} {Q : Option Value → va_W → Prop} {g : Nat} (hg : M.1 1 2 = nI g) (h6 : g ≤ 6) (hy : 0 < M.1 1 3) (hQ : Q (some (.int (cmh g 21 (cm0 M) (wtm M) 0).2)) (wM κ ((cmh g 21 (cm0 M) (wtm M) 0).1))) : CT κ (5, 0, 0) mX6_settles [rv κ 0] (wM κ M) Q := by
  refine CT.of okX6_settles [some (rv κ 0)] (Nat.le_of_ble_eq_true rfl) rfl ?_
  refine wp_rload_0 dX6_settles_0 ?_
  refine wp_getR (t := 101) fX6_28 dX6_settles_1 kd_0 rfl (rf_0_3) ?_
  refine wp_callV_0 kX6_184 dX6_settles_4 kd_101 rfl (c_X0_changingMichaelmases hg h6 hy ?_) ⟨Nat.le_of_ble_eq_true rfl, Nat.le_of_ble_eq_true rfl, Nat.le_of_ble_eq_true rfl⟩ (Nat.le_of_ble_eq_true rfl)
  refine wp_iret dX6_settles_7 rfl rfl ?_
  exact hQ
def sLg (M : MM) (g : Nat) (x h : Int32) : Int32 := if wi x 0 (nI (g - 1) - 1) = 0 then -1 else if wi h 0 19 = 0 then -1 else gft M (cl x) h 21 0
set_option maxRecDepth 100000 in
set_option maxHeartbeats 4000000 in
theorem c_X6_leastGift {κ : KX} {M : MM} {Q : Option Value → va_W → Prop} {g : Nat} {x h : Int32} (hg : M.1 1 2 = nI g) (h6 : g ≤ 6) (hy : 0 < M.1 1 3) (hQ : Q (some (.int (sLg M g x h))) (wM κ (M))) : CT κ (5, 0, 0) mX6_leastGift [rv κ 0, .int x, .int h] (wM κ M) Q := by
  refine CT.of okX6_leastGift [some (rv κ 0), some (.int x), some (.int h)] (Nat.le_of_ble_eq_true rfl) rfl ?_
  refine wp_rload_0 dX6_leastGift_0 ?_
  refine wp_getR (t := 1) fX6_10 dX6_leastGift_1 kd_0 rfl (rf_0_0) ?_
  refine wp_iload_1 dX6_leastGift_4 ?_
  refine wp_callV_1 kX6_85 dX6_leastGift_5 kd_1 rfl (c_X4_isWall hg h6 ?_) ⟨Nat.le_of_ble_eq_true rfl, Nat.le_of_ble_eq_true rfl, Nat.le_of_ble_eq_true rfl⟩ (Nat.le_of_ble_eq_true rfl)
  refine wp_if_eq (tgt := 21) dX6_leastGift_8 rfl (fun c8 => ?_) (fun c8 => ?_)
  · refine wp_iconst (v := (-1)) dX6_leastGift_21 rfl ?_
    refine wp_iret dX6_leastGift_22 rfl rfl ?_
    first
      | (rw [sLg, if_pos c8] at hQ; exact hQ)
      | (rw [if_pos c18] at hQ; exact hQ)
  · obtain ⟨w, hw, rfl⟩ := upto_of c8 (by omega)
    rw [sLg, if_neg c8, cl_nI (by omega)] at hQ
    refine wp_iload_2 dX6_leastGift_11 ?_
    refine wp_iconst (v := 0) dX6_leastGift_12 rfl ?_
    refine wp_bipush (v := 19) dX6_leastGift_13 rfl ?_
    refine wp_callS_3 kX6_46 dX6_leastGift_15 (c_X6_within ?_) ⟨Nat.le_of_ble_eq_true rfl, Nat.le_of_ble_eq_true rfl, Nat.le_of_ble_eq_true rfl⟩ (Nat.le_of_ble_eq_true rfl)
    refine wp_if_ne (tgt := 23) dX6_leastGift_18 rfl (fun c18 => ?_) (fun c18 => ?_)
    · refine wp_rload_0 dX6_leastGift_23 ?_
      refine wp_getR (t := 101) fX6_28 dX6_leastGift_24 kd_0 rfl (rf_0_3) ?_
      refine wp_iload_1 dX6_leastGift_27 ?_
      refine wp_iload_2 dX6_leastGift_28 ?_
      refine wp_callV_2 kX6_187 dX6_leastGift_29 kd_101 rfl (c_X0_giftFor (by omega) hy ?_) ⟨Nat.le_of_ble_eq_true rfl, Nat.le_of_ble_eq_true rfl, Nat.le_of_ble_eq_true rfl⟩ (Nat.le_of_ble_eq_true rfl)
      refine wp_iret dX6_leastGift_32 rfl rfl ?_
      rw [if_neg c18] at hQ
      exact hQ
    · refine wp_iconst (v := (-1)) dX6_leastGift_21 rfl ?_
      refine wp_iret dX6_leastGift_22 rfl rfl ?_
      first
        | (rw [sLg, if_pos c8] at hQ; exact hQ)
        | (rw [if_pos c18] at hQ; exact hQ)
def sSs (M : MM) (g : Nat) (m wh : Int32) : MM × Int32 := if wi m 0 5 = 0 then (M, -1) else if wi wh 0 1 = 0 then (M, -1) else (wA M (g - 1), if ¬ wh = 0 then cw (wA M (g - 1)) (bA (wA M (g - 1)) g (opn (wA M (g - 1)) (g - 1)) m (2 ^ (g - 1) - 1)).1 (g - 1) else (bA (wA M (g - 1)) g (opn (wA M (g - 1)) (g - 1)) m (2 ^ (g - 1) - 1)).1)
set_option maxRecDepth 100000 in
set_option maxHeartbeats 4000000 in
theorem c_X6_sorries {κ : KX} {M : MM} {Q : Option Value → va_W → Prop} {g : Nat} {m wh : Int32} (hg : M.1 1 2 = nI g) (h6 : g ≤ 6) (hy : 0 < M.1 1 3) (hQ : Q (some (.int (sSs M g m wh).2)) (wM κ ((sSs M g m wh).1))) : CT κ (5, 0, 0) mX6_sorries [rv κ 0, .int m, .int wh] (wM κ M) Q := by
  refine CT.of okX6_sorries [some (rv κ 0), some (.int m), some (.int wh), none] (Nat.le_of_ble_eq_true rfl) rfl ?_
  refine wp_iload_1 dX6_sorries_0 ?_
  refine wp_iconst (v := 0) dX6_sorries_1 rfl ?_
  refine wp_iconst (v := 5) dX6_sorries_2 rfl ?_
  refine wp_callS_3 kX6_46 dX6_sorries_3 (c_X6_within ?_) ⟨Nat.le_of_ble_eq_true rfl, Nat.le_of_ble_eq_true rfl, Nat.le_of_ble_eq_true rfl⟩ (Nat.le_of_ble_eq_true rfl)
  refine wp_if_eq (tgt := 18) dX6_sorries_6 rfl (fun c6 => ?_) (fun c6 => ?_)
  · refine wp_iconst (v := (-1)) dX6_sorries_18 rfl ?_
    refine wp_iret dX6_sorries_19 rfl rfl ?_
    first
      | (rw [sSs, if_pos c6] at hQ; exact hQ)
      | (rw [sSs, if_neg c6, if_pos c15] at hQ; exact hQ)
      | (rw [sSs, if_neg c6, if_neg c15] at hQ; exact Qe hQ (if_pos c37).symm rfl)
      | (rw [sSs, if_neg c6, if_neg c15] at hQ; exact Qe hQ (if_neg (fun q => q c37)).symm rfl)
  · refine wp_iload_2 dX6_sorries_9 ?_
    refine wp_iconst (v := 0) dX6_sorries_10 rfl ?_
    refine wp_iconst (v := 1) dX6_sorries_11 rfl ?_
    refine wp_callS_3 kX6_46 dX6_sorries_12 (c_X6_within ?_) ⟨Nat.le_of_ble_eq_true rfl, Nat.le_of_ble_eq_true rfl, Nat.le_of_ble_eq_true rfl⟩ (Nat.le_of_ble_eq_true rfl)
    refine wp_if_ne (tgt := 20) dX6_sorries_15 rfl (fun c15 => ?_) (fun c15 => ?_)
    · refine wp_rload_0 dX6_sorries_20 ?_
      refine wp_getR (t := 101) fX6_28 dX6_sorries_21 kd_0 rfl (rf_0_3) ?_
      refine wp_callV_0 kX6_190 dX6_sorries_24 kd_101 rfl (c_X0_weighApologies hg h6 hy ?_) ⟨Nat.le_of_ble_eq_true rfl, Nat.le_of_ble_eq_true rfl, Nat.le_of_ble_eq_true rfl⟩ (Nat.le_of_ble_eq_true rfl)
      refine wp_rload_0 dX6_sorries_27 ?_
      refine wp_getR (t := 101) fX6_28 dX6_sorries_28 kd_0 rfl (rf_0_3) ?_
      refine wp_iload_1 dX6_sorries_31 ?_
      refine wp_callV_1 kX6_193 dX6_sorries_32 kd_101 rfl (c_X0_bestApologies (g := g) (by rw [wA_fr M (by decide) (by decide)]; exact hg) h6 ?_) ⟨Nat.le_of_ble_eq_true rfl, Nat.le_of_ble_eq_true rfl, Nat.le_of_ble_eq_true rfl⟩ (Nat.le_of_ble_eq_true rfl)
      refine wp_istore_3 dX6_sorries_35 (Nat.le_of_ble_eq_true rfl) rfl ?_
      refine wp_iload_2 dX6_sorries_36 ?_
      refine wp_if_ne (tgt := 44) dX6_sorries_37 rfl (fun c37 => ?_) (fun c37 => ?_)
      · refine wp_rload_0 dX6_sorries_44 ?_
        refine wp_getR (t := 101) fX6_28 dX6_sorries_45 kd_0 rfl (rf_0_3) ?_
        refine wp_iload_3 dX6_sorries_48 ?_
        refine wp_callV_1 kX6_196 dX6_sorries_49 kd_101 rfl (c_X0_coursesWith (g := g) (by rw [wA_fr M (by decide) (by decide)]; exact hg) h6 ?_) ⟨Nat.le_of_ble_eq_true rfl, Nat.le_of_ble_eq_true rfl, Nat.le_of_ble_eq_true rfl⟩ (Nat.le_of_ble_eq_true rfl)
        refine wp_iret dX6_sorries_52 rfl rfl ?_
        first
          | (rw [sSs, if_pos c6] at hQ; exact hQ)
          | (rw [sSs, if_neg c6, if_pos c15] at hQ; exact hQ)
          | (rw [sSs, if_neg c6, if_neg c15] at hQ; exact Qe hQ (if_pos c37).symm rfl)
          | (rw [sSs, if_neg c6, if_neg c15] at hQ; exact Qe hQ (if_neg (fun q => q c37)).symm rfl)
      · refine wp_iload_3 dX6_sorries_40 ?_
        refine wp_goto (tgt := 52) dX6_sorries_41 rfl ?_
        refine wp_iret dX6_sorries_52 rfl rfl ?_
        first
          | (rw [sSs, if_pos c6] at hQ; exact hQ)
          | (rw [sSs, if_neg c6, if_pos c15] at hQ; exact hQ)
          | (rw [sSs, if_neg c6, if_neg c15] at hQ; exact Qe hQ (if_pos c37).symm rfl)
          | (rw [sSs, if_neg c6, if_neg c15] at hQ; exact Qe hQ (if_neg (fun q => q c37)).symm rfl)
    · refine wp_iconst (v := (-1)) dX6_sorries_18 rfl ?_
      refine wp_iret dX6_sorries_19 rfl rfl ?_
      first
        | (rw [sSs, if_pos c6] at hQ; exact hQ)
        | (rw [sSs, if_neg c6, if_pos c15] at hQ; exact hQ)
        | (rw [sSs, if_neg c6, if_neg c15] at hQ; exact Qe hQ (if_pos c37).symm rfl)
        | (rw [sSs, if_neg c6, if_neg c15] at hQ; exact Qe hQ (if_neg (fun q => q c37)).symm rfl)
def sSr (M : MM) (g : Nat) (x wh : Int32) : MM × Int32 := if wi x 1 9 = 0 then (M, -1) else if wi wh 0 1 = 0 then (M, -1) else (wG x M (g - 1), if wh = 0 then (bG (wG x M (g - 1)) g (g - 1)).1 else if (bG (wG x M (g - 1)) g (g - 1)).1 = -4 then (bG (wG x M (g - 1)) g (g - 1)).1 else cw (wG x M (g - 1)) ((1 : Int32) <<< ((bG (wG x M (g - 1)) g (g - 1)).1 &&& 31)) (g - 1))
set_option maxRecDepth 100000 in
set_option maxHeartbeats 4000000 in
theorem c_X6_stir {κ : KX} {M : MM} {Q : Option Value → va_W → Prop} {g : Nat} {x wh : Int32} (hg : M.1 1 2 = nI g) (h6 : g ≤ 6) (hy : 0 < M.1 1 3) (hQ : Q (some (.int (sSr M g x wh).2)) (wM κ ((sSr M g x wh).1))) : CT κ (5, 0, 0) mX6_stir [rv κ 0, .int x, .int wh] (wM κ M) Q := by
  refine CT.of okX6_stir [some (rv κ 0), some (.int x), some (.int wh), none] (Nat.le_of_ble_eq_true rfl) rfl ?_
  refine wp_iload_1 dX6_stir_0 ?_
  refine wp_iconst (v := 1) dX6_stir_1 rfl ?_
  refine wp_bipush (v := 9) dX6_stir_2 rfl ?_
  refine wp_callS_3 kX6_46 dX6_stir_4 (c_X6_within ?_) ⟨Nat.le_of_ble_eq_true rfl, Nat.le_of_ble_eq_true rfl, Nat.le_of_ble_eq_true rfl⟩ (Nat.le_of_ble_eq_true rfl)
  refine wp_if_eq (tgt := 19) dX6_stir_7 rfl (fun c7 => ?_) (fun c7 => ?_)
  · refine wp_iconst (v := (-1)) dX6_stir_19 rfl ?_
    refine wp_iret dX6_stir_20 rfl rfl ?_
    first
      | (rw [sSr, if_pos c7] at hQ; exact hQ)
      | (rw [sSr, if_neg c7, if_pos c16] at hQ; exact hQ)
      | (rw [sSr, if_neg c7, if_neg c16] at hQ; exact Qe hQ (if_pos c38).symm rfl)
      | (rw [sSr, if_neg c7, if_neg c16] at hQ; exact Qe hQ ((if_neg c38).trans (if_pos c44)).symm rfl)
      | (rw [sSr, if_neg c7, if_neg c16] at hQ; exact Qe hQ ((if_neg c38).trans (if_neg c44)).symm rfl)
  · refine wp_iload_2 dX6_stir_10 ?_
    refine wp_iconst (v := 0) dX6_stir_11 rfl ?_
    refine wp_iconst (v := 1) dX6_stir_12 rfl ?_
    refine wp_callS_3 kX6_46 dX6_stir_13 (c_X6_within ?_) ⟨Nat.le_of_ble_eq_true rfl, Nat.le_of_ble_eq_true rfl, Nat.le_of_ble_eq_true rfl⟩ (Nat.le_of_ble_eq_true rfl)
    refine wp_if_ne (tgt := 21) dX6_stir_16 rfl (fun c16 => ?_) (fun c16 => ?_)
    · refine wp_rload_0 dX6_stir_21 ?_
      refine wp_getR (t := 101) fX6_28 dX6_stir_22 kd_0 rfl (rf_0_3) ?_
      refine wp_iload_1 dX6_stir_25 ?_
      refine wp_callV_1 kX6_199 dX6_stir_26 kd_101 rfl (c_X0_weighGossip hg h6 hy ?_) ⟨Nat.le_of_ble_eq_true rfl, Nat.le_of_ble_eq_true rfl, Nat.le_of_ble_eq_true rfl⟩ (Nat.le_of_ble_eq_true rfl)
      refine wp_rload_0 dX6_stir_29 ?_
      refine wp_getR (t := 101) fX6_28 dX6_stir_30 kd_0 rfl (rf_0_3) ?_
      refine wp_callV_0 kX6_203 dX6_stir_33 kd_101 rfl (c_X0_bestGossip (g := g) (by rw [wG_fr x M (by decide) (by decide)]; exact hg) h6 ?_) ⟨Nat.le_of_ble_eq_true rfl, Nat.le_of_ble_eq_true rfl, Nat.le_of_ble_eq_true rfl⟩ (Nat.le_of_ble_eq_true rfl)
      refine wp_istore_3 dX6_stir_36 (Nat.le_of_ble_eq_true rfl) rfl ?_
      refine wp_iload_2 dX6_stir_37 ?_
      refine wp_if_eq (tgt := 47) dX6_stir_38 rfl (fun c38 => ?_) (fun c38 => ?_)
      · refine wp_iload_3 dX6_stir_47 ?_
        refine wp_goto (tgt := 61) dX6_stir_48 rfl ?_
        refine wp_iret dX6_stir_61 rfl rfl ?_
        first
          | (rw [sSr, if_pos c7] at hQ; exact hQ)
          | (rw [sSr, if_neg c7, if_pos c16] at hQ; exact hQ)
          | (rw [sSr, if_neg c7, if_neg c16] at hQ; exact Qe hQ (if_pos c38).symm rfl)
          | (rw [sSr, if_neg c7, if_neg c16] at hQ; exact Qe hQ ((if_neg c38).trans (if_pos c44)).symm rfl)
          | (rw [sSr, if_neg c7, if_neg c16] at hQ; exact Qe hQ ((if_neg c38).trans (if_neg c44)).symm rfl)
      · refine wp_iload_3 dX6_stir_41 ?_
        refine wp_bipush (v := (-4)) dX6_stir_42 rfl ?_
        refine wp_icmp_ne (tgt := 51) dX6_stir_44 rfl (fun c44 => ?_) (fun c44 => ?_)
        · refine wp_rload_0 dX6_stir_51 ?_
          refine wp_getR (t := 101) fX6_28 dX6_stir_52 kd_0 rfl (rf_0_3) ?_
          refine wp_iconst (v := 1) dX6_stir_55 rfl ?_
          refine wp_iload_3 dX6_stir_56 ?_
          refine wp_ishl dX6_stir_57 ?_
          refine wp_callV_1 kX6_196 dX6_stir_58 kd_101 rfl (c_X0_coursesWith (g := g) (by rw [wG_fr x M (by decide) (by decide)]; exact hg) h6 ?_) ⟨Nat.le_of_ble_eq_true rfl, Nat.le_of_ble_eq_true rfl, Nat.le_of_ble_eq_true rfl⟩ (Nat.le_of_ble_eq_true rfl)
          refine wp_iret dX6_stir_61 rfl rfl ?_
          first
            | (rw [sSr, if_pos c7] at hQ; exact hQ)
            | (rw [sSr, if_neg c7, if_pos c16] at hQ; exact hQ)
            | (rw [sSr, if_neg c7, if_neg c16] at hQ; exact Qe hQ (if_pos c38).symm rfl)
            | (rw [sSr, if_neg c7, if_neg c16] at hQ; exact Qe hQ ((if_neg c38).trans (if_pos c44)).symm rfl)
            | (rw [sSr, if_neg c7, if_neg c16] at hQ; exact Qe hQ ((if_neg c38).trans (if_neg c44)).symm rfl)
        · refine wp_iload_3 dX6_stir_47 ?_
          refine wp_goto (tgt := 61) dX6_stir_48 rfl ?_
          refine wp_iret dX6_stir_61 rfl rfl ?_
          first
            | (rw [sSr, if_pos c7] at hQ; exact hQ)
            | (rw [sSr, if_neg c7, if_pos c16] at hQ; exact hQ)
            | (rw [sSr, if_neg c7, if_neg c16] at hQ; exact Qe hQ (if_pos c38).symm rfl)
            | (rw [sSr, if_neg c7, if_neg c16] at hQ; exact Qe hQ ((if_neg c38).trans (if_pos c44)).symm rfl)
            | (rw [sSr, if_neg c7, if_neg c16] at hQ; exact Qe hQ ((if_neg c38).trans (if_neg c44)).symm rfl)
    · refine wp_iconst (v := (-1)) dX6_stir_19 rfl ?_
      refine wp_iret dX6_stir_20 rfl rfl ?_
      first
        | (rw [sSr, if_pos c7] at hQ; exact hQ)
        | (rw [sSr, if_neg c7, if_pos c16] at hQ; exact hQ)
        | (rw [sSr, if_neg c7, if_neg c16] at hQ; exact Qe hQ (if_pos c38).symm rfl)
        | (rw [sSr, if_neg c7, if_neg c16] at hQ; exact Qe hQ ((if_neg c38).trans (if_pos c44)).symm rfl)
        | (rw [sSr, if_neg c7, if_neg c16] at hQ; exact Qe hQ ((if_neg c38).trans (if_neg c44)).symm rfl)
def sHd (M : MM) (g : Nat) (x : Int32) : Int32 := if wi x 0 52 = 0 then -1 else chO M g (cl x)
set_option maxRecDepth 100000 in
set_option maxHeartbeats 4000000 in
theorem c_X6_holds {κ : KX} {M : MM} {Q : Option Value → va_W → Prop} {g : Nat} {x : Int32} (hg : M.1 1 2 = nI g) (h6 : g ≤ 6) (hQ : Q (some (.int (sHd M g x))) (wM κ (M))) : CT κ (2, 0, 0) mX6_holds [rv κ 0, .int x] (wM κ M) Q := by
  refine CT.of okX6_holds [some (rv κ 0), some (.int x)] (Nat.le_of_ble_eq_true rfl) rfl ?_
  refine wp_iload_1 dX6_holds_0 ?_
  refine wp_iconst (v := 0) dX6_holds_1 rfl ?_
  refine wp_bipush (v := 52) dX6_holds_2 rfl ?_
  refine wp_callS_3 kX6_46 dX6_holds_4 (c_X6_within ?_) ⟨Nat.le_of_ble_eq_true rfl, Nat.le_of_ble_eq_true rfl, Nat.le_of_ble_eq_true rfl⟩ (Nat.le_of_ble_eq_true rfl)
  refine wp_if_ne (tgt := 12) dX6_holds_7 rfl (fun c7 => ?_) (fun c7 => ?_)
  · obtain ⟨m, hm1, hm2, rfl⟩ := rng_of (a := 0) (b := 52) c7 (by decide) (by decide)
    rw [sHd, if_neg c7, cl_nI (by omega)] at hQ
    refine wp_rload_0 dX6_holds_12 ?_
    refine wp_getR (t := 101) fX6_28 dX6_holds_13 kd_0 rfl (rf_0_3) ?_
    refine wp_iload_1 dX6_holds_16 ?_
    refine wp_callV_1 kX6_206 dX6_holds_17 kd_101 rfl (c_X0_chanceToStand hg h6 (by omega) ?_) ⟨Nat.le_of_ble_eq_true rfl, Nat.le_of_ble_eq_true rfl, Nat.le_of_ble_eq_true rfl⟩ (Nat.le_of_ble_eq_true rfl)
    refine wp_iret dX6_holds_20 rfl rfl ?_
    exact hQ
  · refine wp_iconst (v := (-1)) dX6_holds_10 rfl ?_
    refine wp_iret dX6_holds_11 rfl rfl ?_
    rw [sHd, if_pos c7] at hQ
    exact hQ
def sIm (M : MM) : MM := sI (sbc51 M) 0 2 1
set_option maxRecDepth 100000 in
set_option maxHeartbeats 4000000 in
theorem c_X6_image {κ : KX} {M : MM} {Q : Option Value → va_W → Prop}   (hQ : Q (some (.int 1)) (wM κ (sIm M))) : CT κ (4, 0, 0) mX6_image [rv κ 0] (wM κ M) Q := by
  refine CT.of okX6_image [some (rv κ 0)] (Nat.le_of_ble_eq_true rfl) rfl ?_
  refine wp_rload_0 dX6_image_0 ?_
  refine wp_getR (t := 51) fX6_16 dX6_image_1 kd_0 rfl (rf_0_1) ?_
  refine wp_rload_0 dX6_image_4 ?_
  refine wp_getR (t := 1) fX6_10 dX6_image_5 kd_0 rfl (rf_0_0) ?_
  refine wp_callV_1 kX6_209 dX6_image_8 kd_51 rfl (c_X4_become51 ?_) ⟨Nat.le_of_ble_eq_true rfl, Nat.le_of_ble_eq_true rfl, Nat.le_of_ble_eq_true rfl⟩ (Nat.le_of_ble_eq_true rfl)
  refine wp_rload_0 dX6_image_11 ?_
  refine wp_iconst (v := 1) dX6_image_12 rfl ?_
  refine wp_putZ fX6_19 dX6_image_13 kd_0 rfl rfl rfl rfl ?_
  refine wp_iconst (v := 1) dX6_image_16 rfl ?_
  refine wp_iret dX6_image_17 rfl rfl ?_
  exact hQ
def sRs (M : MM) : MM × Int32 := if M.1 0 2 = 0 then (M, -4) else (sbc1 M, 1)
set_option maxRecDepth 100000 in
set_option maxHeartbeats 4000000 in
theorem c_X6_restore {κ : KX} {M : MM} {Q : Option Value → va_W → Prop}   (hQ : Q (some (.int (sRs M).2)) (wM κ ((sRs M).1))) : CT κ (4, 0, 0) mX6_restore [rv κ 0] (wM κ M) Q := by
  refine CT.of okX6_restore [some (rv κ 0)] (Nat.le_of_ble_eq_true rfl) rfl ?_
  refine wp_rload_0 dX6_restore_0 ?_
  refine wp_getI fX6_19 dX6_restore_1 kd_0 rfl ?_
  refine wp_if_ne (tgt := 10) dX6_restore_4 rfl (fun c4 => ?_) (fun c4 => ?_)
  · refine wp_rload_0 dX6_restore_10 ?_
    refine wp_getR (t := 1) fX6_10 dX6_restore_11 kd_0 rfl (rf_0_0) ?_
    refine wp_rload_0 dX6_restore_14 ?_
    refine wp_getR (t := 51) fX6_16 dX6_restore_15 kd_0 rfl (rf_0_1) ?_
    refine wp_callV_1 kX6_209 dX6_restore_18 kd_1 rfl (c_X4_become1 ?_) ⟨Nat.le_of_ble_eq_true rfl, Nat.le_of_ble_eq_true rfl, Nat.le_of_ble_eq_true rfl⟩ (Nat.le_of_ble_eq_true rfl)
    refine wp_iconst (v := 1) dX6_restore_21 rfl ?_
    refine wp_iret dX6_restore_22 rfl rfl ?_
    first
      | (rw [sRs, if_pos c4] at hQ; exact hQ)
      | (rw [sRs, if_neg c4] at hQ; exact hQ)
  · refine wp_bipush (v := (-4)) dX6_restore_7 rfl ?_
    refine wp_iret dX6_restore_9 rfl rfl ?_
    first
      | (rw [sRs, if_pos c4] at hQ; exact hQ)
      | (rw [sRs, if_neg c4] at hQ; exact hQ)
theorem rf_111 (j : Nat) : rf 111 j = 112 + 2 * j := by
  show 111 + 1 + 2 * j = _
  omega
theorem has_ok {M : MM} {k : Nat} {len : Nat} {x z : Int32} (hl : M.1 k 3 = nI len) (h24 : len ≤ 24) (h : ¬ hsS (M.1 k 3) x z = 0) : ∃ a b, a + b ≤ len ∧ x = nI a ∧ z = nI b := by
  unfold hsS at h
  split at h
  · exact absurd rfl h
  · split at h
    · exact absurd rfl h
    · split at h
      · exact absurd rfl h
      · rename_i h1 h2 h3
        obtain ⟨a, ha, rfl⟩ := nI_of h1
        obtain ⟨b, hb, rfl⟩ := nI_of h2
        rw [hl, i32_lt, nI_toInt ha] at h3
        refine ⟨a, b, ?_, rfl, rfl⟩
        have e : (nI len - nI b).toInt = (len : Int) - b := by
          rw [Int32.toInt_sub, nI_toInt (by omega), nI_toInt hb]
          apply Int.bmod_eq_of_le <;> omega
        rw [e] at h3
        omega
def sSh (M : MM) (x l z : Int32) : MM × Int32 := if wi x 0 3 = 0 then (M, -1) else if wi l 0 3 = 0 then (M, -1) else if ¬ z ≤ 24 then (M, -1) else if 0 ≤ z then (rnw (112 + 2 * cl x) M l z, z) else (M, -14)
set_option maxRecDepth 100000 in
set_option maxHeartbeats 4000000 in
theorem c_X6_sheet {κ : KX} {M : MM} {Q : Option Value → va_W → Prop} {x l z : Int32}  (hQ : Q (some (.int (sSh M x l z).2)) (wM κ ((sSh M x l z).1))) : CT κ (2, 0, 0) mX6_sheet [rv κ 0, .int x, .int l, .int z] (wM κ M) Q := by
  refine CT.of okX6_sheet [some (rv κ 0), some (.int x), some (.int l), some (.int z)] (Nat.le_of_ble_eq_true rfl) rfl ?_
  refine wp_iload_1 dX6_sheet_0 ?_
  refine wp_callS_1 kX6_212 dX6_sheet_1 (c_X6_isSheet ?_) ⟨Nat.le_of_ble_eq_true rfl, Nat.le_of_ble_eq_true rfl, Nat.le_of_ble_eq_true rfl⟩ (Nat.le_of_ble_eq_true rfl)
  refine wp_if_eq (tgt := 20) dX6_sheet_4 rfl (fun c4 => ?_) (fun c4 => ?_)
  · refine wp_iconst (v := (-1)) dX6_sheet_20 rfl ?_
    refine wp_iret dX6_sheet_21 rfl rfl ?_
    first
      | (rw [sSh, if_pos c4] at hQ; exact hQ)
      | (rw [if_pos c11] at hQ; exact hQ)
      | (rw [if_neg c11, if_pos c17] at hQ; exact hQ)
  · obtain ⟨s, hs0, hs1, rfl⟩ := rng_of (a := 0) (b := 3) c4 (by decide) (by decide)
    have hs : s < 4 := by omega
    rw [sSh, if_neg c4, cl_nI (by omega)] at hQ
    refine wp_iload_2 dX6_sheet_7 ?_
    refine wp_callS_1 kX6_215 dX6_sheet_8 (c_X6_isLane ?_) ⟨Nat.le_of_ble_eq_true rfl, Nat.le_of_ble_eq_true rfl, Nat.le_of_ble_eq_true rfl⟩ (Nat.le_of_ble_eq_true rfl)
    refine wp_if_eq (tgt := 20) dX6_sheet_11 rfl (fun c11 => ?_) (fun c11 => ?_)
    · refine wp_iconst (v := (-1)) dX6_sheet_20 rfl ?_
      refine wp_iret dX6_sheet_21 rfl rfl ?_
      first
        | (rw [sSh, if_pos c4] at hQ; exact hQ)
        | (rw [if_pos c11] at hQ; exact hQ)
        | (rw [if_neg c11, if_pos c17] at hQ; exact hQ)
    · refine wp_iload_3 dX6_sheet_14 ?_
      refine wp_bipush (v := 24) dX6_sheet_15 rfl ?_
      refine wp_icmp_le (tgt := 22) dX6_sheet_17 rfl (fun c17 => ?_) (fun c17 => ?_)
      · refine wp_iload_3 dX6_sheet_22 ?_
        refine wp_if_ge (tgt := 29) dX6_sheet_23 rfl (fun c23 => ?_) (fun c23 => ?_)
        · refine wp_rload_0 dX6_sheet_29 ?_
          refine wp_getR (t := 111) fX6_41 dX6_sheet_30 kd_0 rfl (rf_0_5) ?_
          refine wp_iload_1 dX6_sheet_33 ?_
          refine wp_aald (j := s) (t := (112 + 2 * s)) dX6_sheet_34 (Or.inr kd_111) (rfl) (by rw [ln_111]; omega) (rf_111 _) ?_
          refine wp_iload_2 dX6_sheet_35 ?_
          refine wp_iload_3 dX6_sheet_36 ?_
          refine wp_callV_2 kX6_232 dX6_sheet_37 (sh_at hs).1 rfl (c_X2_renew (sh_at hs) ?_) ⟨Nat.le_of_ble_eq_true rfl, Nat.le_of_ble_eq_true rfl, Nat.le_of_ble_eq_true rfl⟩ (Nat.le_of_ble_eq_true rfl)
          refine wp_iload_3 dX6_sheet_40 ?_
          refine wp_iret dX6_sheet_41 rfl rfl ?_
          rw [if_neg c11, if_neg (fun q => q c17), if_pos c23] at hQ
          exact hQ
        · refine wp_bipush (v := (-14)) dX6_sheet_26 rfl ?_
          refine wp_iret dX6_sheet_28 rfl rfl ?_
          rw [if_neg c11, if_neg (fun q => q c17), if_neg c23] at hQ
          exact hQ
      · refine wp_iconst (v := (-1)) dX6_sheet_20 rfl ?_
        refine wp_iret dX6_sheet_21 rfl rfl ?_
        first
          | (rw [sSh, if_pos c4] at hQ; exact hQ)
          | (rw [if_pos c11] at hQ; exact hQ)
          | (rw [if_neg c11, if_pos c17] at hQ; exact hQ)
def sDp (M : MM) (x : Int32) : MM × Int32 := if wi x 0 3 = 0 then (M, -1) else if M.1 (112 + 2 * cl x) 1 = 0 then (M, -11) else (sI M (112 + 2 * cl x) 1 0, M.1 (112 + 2 * cl x) 3)
set_option maxRecDepth 100000 in
set_option maxHeartbeats 4000000 in
theorem c_X6_drop {κ : KX} {M : MM} {Q : Option Value → va_W → Prop} {x : Int32}  (hQ : Q (some (.int (sDp M x).2)) (wM κ ((sDp M x).1))) : CT κ (2, 0, 0) mX6_drop [rv κ 0, .int x] (wM κ M) Q := by
  refine CT.of okX6_drop [some (rv κ 0), some (.int x)] (Nat.le_of_ble_eq_true rfl) rfl ?_
  refine wp_iload_1 dX6_drop_0 ?_
  refine wp_callS_1 kX6_212 dX6_drop_1 (c_X6_isSheet ?_) ⟨Nat.le_of_ble_eq_true rfl, Nat.le_of_ble_eq_true rfl, Nat.le_of_ble_eq_true rfl⟩ (Nat.le_of_ble_eq_true rfl)
  refine wp_if_ne (tgt := 9) dX6_drop_4 rfl (fun c4 => ?_) (fun c4 => ?_)
  · obtain ⟨s, hs0, hs1, rfl⟩ := rng_of (a := 0) (b := 3) c4 (by decide) (by decide)
    have hs : s < 4 := by omega
    rw [sDp, if_neg c4, cl_nI (by omega)] at hQ
    refine wp_rload_0 dX6_drop_9 ?_
    refine wp_getR (t := 111) fX6_41 dX6_drop_10 kd_0 rfl (rf_0_5) ?_
    refine wp_iload_1 dX6_drop_13 ?_
    refine wp_aald (j := s) (t := (112 + 2 * s)) dX6_drop_14 (Or.inr kd_111) (rfl) (by rw [ln_111]; omega) (rf_111 _) ?_
    refine wp_getI fX6_236 dX6_drop_15 (sh_at hs).1 rfl ?_
    refine wp_if_ne (tgt := 24) dX6_drop_18 rfl (fun c18 => ?_) (fun c18 => ?_)
    · refine wp_rload_0 dX6_drop_24 ?_
      refine wp_getR (t := 111) fX6_41 dX6_drop_25 kd_0 rfl (rf_0_5) ?_
      refine wp_iload_1 dX6_drop_28 ?_
      refine wp_aald (j := s) (t := (112 + 2 * s)) dX6_drop_29 (Or.inr kd_111) (rfl) (by rw [ln_111]; omega) (rf_111 _) ?_
      refine wp_iconst (v := 0) dX6_drop_30 rfl ?_
      refine wp_putZ fX6_236 dX6_drop_31 (sh_at hs).1 rfl rfl rfl rfl ?_
      refine wp_rload_0 dX6_drop_34 ?_
      refine wp_getR (t := 111) fX6_41 dX6_drop_35 kd_0 rfl (rf_0_5) ?_
      refine wp_iload_1 dX6_drop_38 ?_
      refine wp_aald (j := s) (t := (112 + 2 * s)) dX6_drop_39 (Or.inr kd_111) (rfl) (by rw [ln_111]; omega) (rf_111 _) ?_
      refine wp_getI fX6_239 dX6_drop_40 (sh_at hs).1 rfl ?_
      refine wp_iret dX6_drop_43 rfl rfl ?_
      rw [if_neg c18] at hQ
      exact Qe hQ (by simp [sI, upd]) rfl
    · refine wp_bipush (v := (-11)) dX6_drop_21 rfl ?_
      refine wp_iret dX6_drop_23 rfl rfl ?_
      rw [if_pos c18] at hQ
      exact hQ
  · refine wp_iconst (v := (-1)) dX6_drop_7 rfl ?_
    refine wp_iret dX6_drop_8 rfl rfl ?_
    rw [sDp, if_pos c4] at hQ
    exact hQ
def sIt (M : MM) (x l a : Int32) (v : Int64) : MM × Int32 := if wi x 0 3 = 0 then (M, -1) else if wi l 0 3 = 0 then (M, -1) else if rfS M (112 + 2 * cl x) l a 1 = 0 then (ptS (112 + 2 * cl x) M (cl a) v, 1) else (M, rfS M (112 + 2 * cl x) l a 1)
theorem rfS_ok {M : MM} {k : Nat} {l x z : Int32} (h : rfS M k l x z = 0) : ¬ hsS (M.1 k 3) x z = 0 := by
  intro e
  unfold rfS at h
  split at h
  · exact absurd h (by decide)
  · split at h
    · exact absurd h (by decide)
    · first
        | (rw [if_pos e] at h; exact absurd h (by decide))
        | exact absurd h (by decide)
set_option maxRecDepth 100000 in
set_option maxHeartbeats 4000000 in
theorem c_X6_item {κ : KX} {M : MM} {Q : Option Value → va_W → Prop} {x l a : Int32} {v : Int64} (hl : ∀ s, s < 4 → ∃ len, M.1 (112 + 2 * s) 3 = nI len ∧ len ≤ 24) (hQ : Q (some (.int (sIt M x l a v).2)) (wM κ ((sIt M x l a v).1))) : CT κ (2, 0, 0) mX6_item [rv κ 0, .int x, .int l, .int a, .long v] (wM κ M) Q := by
  refine CT.of okX6_item [some (rv κ 0), some (.int x), some (.int l), some (.int a), some (.long v), none, none] (Nat.le_of_ble_eq_true rfl) rfl ?_
  refine wp_iload_1 dX6_item_0 ?_
  refine wp_callS_1 kX6_212 dX6_item_1 (c_X6_isSheet ?_) ⟨Nat.le_of_ble_eq_true rfl, Nat.le_of_ble_eq_true rfl, Nat.le_of_ble_eq_true rfl⟩ (Nat.le_of_ble_eq_true rfl)
  refine wp_if_eq (tgt := 14) dX6_item_4 rfl (fun c4 => ?_) (fun c4 => ?_)
  · refine wp_iconst (v := (-1)) dX6_item_14 rfl ?_
    refine wp_iret dX6_item_15 rfl rfl ?_
    first
      | (rw [sIt, if_pos c4] at hQ; exact hQ)
      | (rw [if_pos c11] at hQ; exact hQ)
  · obtain ⟨s, hs0, hs1, rfl⟩ := rng_of (a := 0) (b := 3) c4 (by decide) (by decide)
    have hs : s < 4 := by omega
    rw [sIt, if_neg c4, cl_nI (by omega)] at hQ
    refine wp_iload_2 dX6_item_7 ?_
    refine wp_callS_1 kX6_215 dX6_item_8 (c_X6_isLane ?_) ⟨Nat.le_of_ble_eq_true rfl, Nat.le_of_ble_eq_true rfl, Nat.le_of_ble_eq_true rfl⟩ (Nat.le_of_ble_eq_true rfl)
    refine wp_if_ne (tgt := 16) dX6_item_11 rfl (fun c11 => ?_) (fun c11 => ?_)
    · refine wp_rload_0 dX6_item_16 ?_
      refine wp_getR (t := 111) fX6_41 dX6_item_17 kd_0 rfl (rf_0_5) ?_
      refine wp_iload_1 dX6_item_20 ?_
      refine wp_aald (j := s) (t := (112 + 2 * s)) dX6_item_21 (Or.inr kd_111) (rfl) (by rw [ln_111]; omega) (rf_111 _) ?_
      refine wp_iload_2 dX6_item_22 ?_
      refine wp_iload_3 dX6_item_23 ?_
      refine wp_iconst (v := 1) dX6_item_24 rfl ?_
      refine wp_callV_3 kX6_218 dX6_item_25 (sh_at hs).1 rfl (c_X2_refusal (sh_at hs) ?_) ⟨Nat.le_of_ble_eq_true rfl, Nat.le_of_ble_eq_true rfl, Nat.le_of_ble_eq_true rfl⟩ (Nat.le_of_ble_eq_true rfl)
      refine wp_istore_6 dX6_item_28 (Nat.le_of_ble_eq_true rfl) rfl ?_
      refine wp_iload_6 dX6_item_30 ?_
      refine wp_if_eq (tgt := 38) dX6_item_32 rfl (fun c32 => ?_) (fun c32 => ?_)
      · obtain ⟨len, hl1, hl2⟩ := hl s hs
        obtain ⟨a2, b2, hab, rfl, hb2⟩ := has_ok hl1 hl2 (rfS_ok c32)
        have hb3 : b2 = 1 := ((nI_eq (a := 1) (b := b2) (by decide) (by omega)).mp hb2).symm
        rw [if_neg c11, if_pos c32, cl_nI (by omega)] at hQ
        refine wp_rload_0 dX6_item_38 ?_
        refine wp_getR (t := 111) fX6_41 dX6_item_39 kd_0 rfl (rf_0_5) ?_
        refine wp_iload_1 dX6_item_42 ?_
        refine wp_aald (j := s) (t := (112 + 2 * s)) dX6_item_43 (Or.inr kd_111) (rfl) (by rw [ln_111]; omega) (rf_111 _) ?_
        refine wp_iload_3 dX6_item_44 ?_
        refine wp_lload_4 dX6_item_45 ?_
        refine wp_callV_2 kX6_228 dX6_item_47 (sh_at hs).1 rfl (c_X2_put (sh_at hs) (by omega) ?_) ⟨Nat.le_of_ble_eq_true rfl, Nat.le_of_ble_eq_true rfl, Nat.le_of_ble_eq_true rfl⟩ (Nat.le_of_ble_eq_true rfl)
        refine wp_iconst (v := 1) dX6_item_50 rfl ?_
        refine wp_iret dX6_item_51 rfl rfl ?_
        exact hQ
      · refine wp_iload_6 dX6_item_35 ?_
        refine wp_iret dX6_item_37 rfl rfl ?_
        rw [if_neg c11, if_neg c32] at hQ
        exact hQ
    · refine wp_iconst (v := (-1)) dX6_item_14 rfl ?_
      refine wp_iret dX6_item_15 rfl rfl ?_
      first
        | (rw [sIt, if_pos c4] at hQ; exact hQ)
        | (rw [if_pos c11] at hQ; exact hQ)
def sSn (M : MM) (g : Nat) (x y l a b wh : Int32) : Int32 := if wi x 0 (nI (g - 1) - 1) = 0 then -1 else if wi y 0 3 = 0 then -1 else if wi l 0 3 = 0 then -1 else if wi b 1 6 = 0 then -1 else if wi wh 0 1 = 0 then -1 else if rfS M (112 + 2 * cl y) l a b = 0 then (if ¬ wh = 0 then ltf M (cl x) (112 + 2 * cl y) (cl a) (cl b) 100 0 else hmf M (cl x) (112 + 2 * cl y) (cl a) (cl b) 100) else rfS M (112 + 2 * cl y) l a b
set_option maxRecDepth 100000 in
set_option maxHeartbeats 4000000 in
theorem c_X6_seen {κ : KX} {M : MM} {Q : Option Value → va_W → Prop} {g : Nat} {x y l a b wh : Int32} (hg : M.1 1 2 = nI g) (h6 : g ≤ 6) (hy : 0 < M.1 1 3) (hl : ∀ s, s < 4 → ∃ len, M.1 (112 + 2 * s) 3 = nI len ∧ len ≤ 24) (hQ : Q (some (.int (sSn M g x y l a b wh))) (wM κ (M))) : CT κ (5, 0, 0) mX6_seen [rv κ 0, .int x, .int y, .int l, .int a, .int b, .int wh] (wM κ M) Q := by
  refine CT.of okX6_seen [some (rv κ 0), some (.int x), some (.int y), some (.int l), some (.int a), some (.int b), some (.int wh), none] (Nat.le_of_ble_eq_true rfl) rfl ?_
  refine wp_rload_0 dX6_seen_0 ?_
  refine wp_getR (t := 1) fX6_10 dX6_seen_1 kd_0 rfl (rf_0_0) ?_
  refine wp_iload_1 dX6_seen_4 ?_
  refine wp_callV_1 kX6_85 dX6_seen_5 kd_1 rfl (c_X4_isWall hg h6 ?_) ⟨Nat.le_of_ble_eq_true rfl, Nat.le_of_ble_eq_true rfl, Nat.le_of_ble_eq_true rfl⟩ (Nat.le_of_ble_eq_true rfl)
  refine wp_if_eq (tgt := 46) dX6_seen_8 rfl (fun c8 => ?_) (fun c8 => ?_)
  · refine wp_iconst (v := (-1)) dX6_seen_46 rfl ?_
    refine wp_iret dX6_seen_47 rfl rfl ?_
    first
      | (rw [sSn, if_pos c8] at hQ; exact hQ)
      | (rw [if_pos c15] at hQ; exact hQ)
      | (rw [if_pos c22] at hQ; exact hQ)
      | (rw [if_neg c22, if_pos c33] at hQ; exact hQ)
      | (rw [if_neg c22, if_neg c33, if_pos c43] at hQ; exact hQ)
  · obtain ⟨w, hw, rfl⟩ := upto_of c8 (by omega)
    rw [sSn, if_neg c8, cl_nI (by omega)] at hQ
    refine wp_iload_2 dX6_seen_11 ?_
    refine wp_callS_1 kX6_212 dX6_seen_12 (c_X6_isSheet ?_) ⟨Nat.le_of_ble_eq_true rfl, Nat.le_of_ble_eq_true rfl, Nat.le_of_ble_eq_true rfl⟩ (Nat.le_of_ble_eq_true rfl)
    refine wp_if_eq (tgt := 46) dX6_seen_15 rfl (fun c15 => ?_) (fun c15 => ?_)
    · refine wp_iconst (v := (-1)) dX6_seen_46 rfl ?_
      refine wp_iret dX6_seen_47 rfl rfl ?_
      first
        | (rw [sSn, if_pos c8] at hQ; exact hQ)
        | (rw [if_pos c15] at hQ; exact hQ)
        | (rw [if_pos c22] at hQ; exact hQ)
        | (rw [if_neg c22, if_pos c33] at hQ; exact hQ)
        | (rw [if_neg c22, if_neg c33, if_pos c43] at hQ; exact hQ)
    · obtain ⟨s, hs0, hs1, rfl⟩ := rng_of (a := 0) (b := 3) c15 (by decide) (by decide)
      have hs : s < 4 := by omega
      rw [if_neg c15, cl_nI (by omega)] at hQ
      refine wp_iload_3 dX6_seen_18 ?_
      refine wp_callS_1 kX6_215 dX6_seen_19 (c_X6_isLane ?_) ⟨Nat.le_of_ble_eq_true rfl, Nat.le_of_ble_eq_true rfl, Nat.le_of_ble_eq_true rfl⟩ (Nat.le_of_ble_eq_true rfl)
      refine wp_if_eq (tgt := 46) dX6_seen_22 rfl (fun c22 => ?_) (fun c22 => ?_)
      · refine wp_iconst (v := (-1)) dX6_seen_46 rfl ?_
        refine wp_iret dX6_seen_47 rfl rfl ?_
        first
          | (rw [sSn, if_pos c8] at hQ; exact hQ)
          | (rw [if_pos c15] at hQ; exact hQ)
          | (rw [if_pos c22] at hQ; exact hQ)
          | (rw [if_neg c22, if_pos c33] at hQ; exact hQ)
          | (rw [if_neg c22, if_neg c33, if_pos c43] at hQ; exact hQ)
      · refine wp_iload_5 dX6_seen_25 ?_
        refine wp_iconst (v := 1) dX6_seen_27 rfl ?_
        refine wp_bipush (v := 6) dX6_seen_28 rfl ?_
        refine wp_callS_3 kX6_46 dX6_seen_30 (c_X6_within ?_) ⟨Nat.le_of_ble_eq_true rfl, Nat.le_of_ble_eq_true rfl, Nat.le_of_ble_eq_true rfl⟩ (Nat.le_of_ble_eq_true rfl)
        refine wp_if_eq (tgt := 46) dX6_seen_33 rfl (fun c33 => ?_) (fun c33 => ?_)
        · refine wp_iconst (v := (-1)) dX6_seen_46 rfl ?_
          refine wp_iret dX6_seen_47 rfl rfl ?_
          first
            | (rw [sSn, if_pos c8] at hQ; exact hQ)
            | (rw [if_pos c15] at hQ; exact hQ)
            | (rw [if_pos c22] at hQ; exact hQ)
            | (rw [if_neg c22, if_pos c33] at hQ; exact hQ)
            | (rw [if_neg c22, if_neg c33, if_pos c43] at hQ; exact hQ)
        · refine wp_iload_6 dX6_seen_36 ?_
          refine wp_iconst (v := 0) dX6_seen_38 rfl ?_
          refine wp_iconst (v := 1) dX6_seen_39 rfl ?_
          refine wp_callS_3 kX6_46 dX6_seen_40 (c_X6_within ?_) ⟨Nat.le_of_ble_eq_true rfl, Nat.le_of_ble_eq_true rfl, Nat.le_of_ble_eq_true rfl⟩ (Nat.le_of_ble_eq_true rfl)
          refine wp_if_ne (tgt := 48) dX6_seen_43 rfl (fun c43 => ?_) (fun c43 => ?_)
          · refine wp_rload_0 dX6_seen_48 ?_
            refine wp_getR (t := 111) fX6_41 dX6_seen_49 kd_0 rfl (rf_0_5) ?_
            refine wp_iload_2 dX6_seen_52 ?_
            refine wp_aald (j := s) (t := (112 + 2 * s)) dX6_seen_53 (Or.inr kd_111) (rfl) (by rw [ln_111]; omega) (rf_111 _) ?_
            refine wp_iload_3 dX6_seen_54 ?_
            refine wp_iload_4 dX6_seen_55 ?_
            refine wp_iload_5 dX6_seen_57 ?_
            refine wp_callV_3 kX6_218 dX6_seen_59 (sh_at hs).1 rfl (c_X2_refusal (sh_at hs) ?_) ⟨Nat.le_of_ble_eq_true rfl, Nat.le_of_ble_eq_true rfl, Nat.le_of_ble_eq_true rfl⟩ (Nat.le_of_ble_eq_true rfl)
            refine wp_istore_7 dX6_seen_62 (Nat.le_of_ble_eq_true rfl) rfl ?_
            refine wp_iload_7 dX6_seen_64 ?_
            refine wp_if_eq (tgt := 72) dX6_seen_66 rfl (fun c66 => ?_) (fun c66 => ?_)
            · obtain ⟨len, hl1, hl2⟩ := hl s hs
              obtain ⟨a2, b2, hab, rfl, rfl⟩ := has_ok hl1 hl2 (rfS_ok c66)
              rw [if_neg c22, if_neg c33, if_neg c43, if_pos c66, cl_nI (by omega), cl_nI (by omega)] at hQ
              refine wp_iload_6 dX6_seen_72 ?_
              refine wp_if_ne (tgt := 98) dX6_seen_74 rfl (fun c74 => ?_) (fun c74 => ?_)
              · refine wp_rload_0 dX6_seen_98 ?_
                refine wp_getR (t := 101) fX6_28 dX6_seen_99 kd_0 rfl (rf_0_3) ?_
                refine wp_iload_1 dX6_seen_102 ?_
                refine wp_rload_0 dX6_seen_103 ?_
                refine wp_getR (t := 111) fX6_41 dX6_seen_104 kd_0 rfl (rf_0_5) ?_
                refine wp_iload_2 dX6_seen_107 ?_
                refine wp_aald (j := s) (t := (112 + 2 * s)) dX6_seen_108 (Or.inr kd_111) (rfl) (by rw [ln_111]; omega) (rf_111 _) ?_
                refine wp_iload_4 dX6_seen_109 ?_
                refine wp_iload_5 dX6_seen_111 ?_
                refine wp_callV_4 kX6_225 dX6_seen_113 kd_101 rfl (c_X0_leastThatFits (by omega) (sh_at hs) (by omega) hy ?_) ⟨Nat.le_of_ble_eq_true rfl, Nat.le_of_ble_eq_true rfl, Nat.le_of_ble_eq_true rfl⟩ (Nat.le_of_ble_eq_true rfl)
                refine wp_iret dX6_seen_116 rfl rfl ?_
                first
                  | exact Qe hQ (if_pos c74).symm rfl
                  | exact Qe hQ (if_neg (fun q => q c74)).symm rfl
              · refine wp_rload_0 dX6_seen_77 ?_
                refine wp_getR (t := 101) fX6_28 dX6_seen_78 kd_0 rfl (rf_0_3) ?_
                refine wp_iload_1 dX6_seen_81 ?_
                refine wp_rload_0 dX6_seen_82 ?_
                refine wp_getR (t := 111) fX6_41 dX6_seen_83 kd_0 rfl (rf_0_5) ?_
                refine wp_iload_2 dX6_seen_86 ?_
                refine wp_aald (j := s) (t := (112 + 2 * s)) dX6_seen_87 (Or.inr kd_111) (rfl) (by rw [ln_111]; omega) (rf_111 _) ?_
                refine wp_iload_4 dX6_seen_88 ?_
                refine wp_iload_5 dX6_seen_90 ?_
                refine wp_callV_4 kX6_221 dX6_seen_92 kd_101 rfl (c_X0_howManyFit (by omega) (sh_at hs) (by omega) hy ?_) ⟨Nat.le_of_ble_eq_true rfl, Nat.le_of_ble_eq_true rfl, Nat.le_of_ble_eq_true rfl⟩ (Nat.le_of_ble_eq_true rfl)
                refine wp_goto (tgt := 116) dX6_seen_95 rfl ?_
                refine wp_iret dX6_seen_116 rfl rfl ?_
                first
                  | exact Qe hQ (if_pos c74).symm rfl
                  | exact Qe hQ (if_neg (fun q => q c74)).symm rfl
            · refine wp_iload_7 dX6_seen_69 ?_
              refine wp_iret dX6_seen_71 rfl rfl ?_
              rw [if_neg c22, if_neg c33, if_neg c43, if_neg c66] at hQ
              exact hQ
          · refine wp_iconst (v := (-1)) dX6_seen_46 rfl ?_
            refine wp_iret dX6_seen_47 rfl rfl ?_
            first
              | (rw [sSn, if_pos c8] at hQ; exact hQ)
              | (rw [if_pos c15] at hQ; exact hQ)
              | (rw [if_pos c22] at hQ; exact hQ)
              | (rw [if_neg c22, if_pos c33] at hQ; exact hQ)
              | (rw [if_neg c22, if_neg c33, if_pos c43] at hQ; exact hQ)
def flM (w k a : Nat) (M : MM) : Nat → MM
  | 0 => M
  | j + 1 => ptS k (flM w k a M j) (a + j) (bhd (flM w k a M j) w (nI (j + 1)) 1).toInt64
theorem flM_1 (w k a : Nat) (M : MM) : ∀ j, (flM w k a M j).1 = M.1
  | 0 => rfl
  | j + 1 => flM_1 w k a M j
set_option maxRecDepth 100000 in
set_option maxHeartbeats 4000000 in
theorem l_X6_film {κ : KX} {M : MM} {Q : Option Value → va_W → Prop} {w s a b : Nat} {l z : Int32} (hw : w < 5) (hs : s < 4) (hab : a + b ≤ 24) (hy : 0 < M.1 1 3) (hx : WP κ (4, 0, 0) mX6_film 105 [some (rv κ 0), some (.int (nI w)), some (.int (nI b)), some (.int (nI s)), some (.int l), some (.int (nI a)), some (.int z), some (.int (nI b))] [] (wM κ (flM w (112 + 2 * s) a M b)) (0, 0) Q) : ∀ n j, j + n = b → WP κ (4, 0, 0) mX6_film 65 [some (rv κ 0), some (.int (nI w)), some (.int (nI b)), some (.int (nI s)), some (.int l), some (.int (nI a)), some (.int z), some (.int (nI j))] [] (wM κ (flM w (112 + 2 * s) a M j)) (0, 0) Q := by
  intro n
  induction n with
  | zero =>
    intro j hn
    have hn : j = b := hn
    refine wp_iload_7 dX6_film_65 ?_
    refine wp_iload_2 dX6_film_67 ?_
    refine wp_icmp_ge (tgt := 105) dX6_film_68 rfl (fun c68 => ?_) (fun c68 => absurd (nI_le (by omega) (by omega)) c68)
    subst hn
    exact hx
  | succ n ih =>
    intro j hn
    refine wp_iload_7 dX6_film_65 ?_
    refine wp_iload_2 dX6_film_67 ?_
    refine wp_icmp_ge (tgt := 105) dX6_film_68 rfl (fun c68 => absurd c68 (nI_ge (by omega) (by omega))) (fun c68 => ?_)
    refine wp_rload_0 dX6_film_71 ?_
    refine wp_getR (t := 111) fX6_41 dX6_film_72 kd_0 rfl (rf_0_5) ?_
    refine wp_iload_3 dX6_film_75 ?_
    refine wp_aald (j := s) (t := (112 + 2 * s)) dX6_film_76 (Or.inr kd_111) (rfl) (by rw [ln_111]; omega) (rf_111 _) ?_
    refine wp_iload_5 dX6_film_77 ?_
    refine wp_iload_7 dX6_film_79 ?_
    refine wp_iadd dX6_film_81 ?_
    refine wp_rload_0 dX6_film_82 ?_
    refine wp_getR (t := 101) fX6_28 dX6_film_83 kd_0 rfl (rf_0_3) ?_
    refine wp_iload_1 dX6_film_86 ?_
    refine wp_iload_7 dX6_film_87 ?_
    refine wp_iconst (v := 1) dX6_film_89 rfl ?_
    refine wp_iadd dX6_film_90 ?_
    refine wp_iconst (v := 1) dX6_film_91 rfl ?_
    rw [show nI j + 1 = nI (j + 1) from nI_1 j, show nI a + nI j = nI (a + j) from nI_add a j]
    refine wp_callV_3 kX6_180 dX6_film_92 kd_101 rfl (c_X0_behind hw (by rw [flM_1]; exact hy) ?_) ⟨Nat.le_of_ble_eq_true rfl, Nat.le_of_ble_eq_true rfl, Nat.le_of_ble_eq_true rfl⟩ (Nat.le_of_ble_eq_true rfl)
    refine wp_i2l dX6_film_95 ?_
    refine wp_callV_2 kX6_228 dX6_film_96 (sh_at hs).1 rfl (c_X2_put (sh_at hs) (by omega) ?_) ⟨Nat.le_of_ble_eq_true rfl, Nat.le_of_ble_eq_true rfl, Nat.le_of_ble_eq_true rfl⟩ (Nat.le_of_ble_eq_true rfl)
    refine wp_iinc_7 (v := nI (j + 1)) dX6_film_99 (nI_inc _) (Nat.le_of_ble_eq_true rfl) rfl ?_
    refine wp_goto (tgt := 65) dX6_film_102 rfl ?_
    exact ih (j + 1) (by omega)
def sFm (M : MM) (g : Nat) (x z y l a : Int32) : MM × Int32 := if wi x 0 (nI (g - 1) - 1) = 0 then (M, -1) else if wi z 1 24 = 0 then (M, -1) else if wi y 0 3 = 0 then (M, -1) else if wi l 0 3 = 0 then (M, -1) else if rfS M (112 + 2 * cl y) l a z = 0 then (flM (cl x) (112 + 2 * cl y) (cl a) M (cl z), z) else (M, rfS M (112 + 2 * cl y) l a z)
set_option maxRecDepth 100000 in
set_option maxHeartbeats 4000000 in
theorem c_X6_film {κ : KX} {M : MM} {Q : Option Value → va_W → Prop} {g : Nat} {x z y l a : Int32} (hg : M.1 1 2 = nI g) (h6 : g ≤ 6) (hy : 0 < M.1 1 3) (hl : ∀ s, s < 4 → ∃ len, M.1 (112 + 2 * s) 3 = nI len ∧ len ≤ 24) (hQ : Q (some (.int (sFm M g x z y l a).2)) (wM κ ((sFm M g x z y l a).1))) : CT κ (4, 0, 0) mX6_film [rv κ 0, .int x, .int z, .int y, .int l, .int a] (wM κ M) Q := by
  refine CT.of okX6_film [some (rv κ 0), some (.int x), some (.int z), some (.int y), some (.int l), some (.int a), none, none] (Nat.le_of_ble_eq_true rfl) rfl ?_
  refine wp_rload_0 dX6_film_0 ?_
  refine wp_getR (t := 1) fX6_10 dX6_film_1 kd_0 rfl (rf_0_0) ?_
  refine wp_iload_1 dX6_film_4 ?_
  refine wp_callV_1 kX6_85 dX6_film_5 kd_1 rfl (c_X4_isWall hg h6 ?_) ⟨Nat.le_of_ble_eq_true rfl, Nat.le_of_ble_eq_true rfl, Nat.le_of_ble_eq_true rfl⟩ (Nat.le_of_ble_eq_true rfl)
  refine wp_if_eq (tgt := 36) dX6_film_8 rfl (fun c8 => ?_) (fun c8 => ?_)
  · refine wp_iconst (v := (-1)) dX6_film_36 rfl ?_
    refine wp_iret dX6_film_37 rfl rfl ?_
    first
      | (rw [sFm, if_pos c8] at hQ; exact hQ)
      | (rw [if_pos c18] at hQ; exact hQ)
      | (rw [if_neg c18, if_pos c25] at hQ; exact hQ)
      | (rw [if_pos c33] at hQ; exact hQ)
  · obtain ⟨w, hw, rfl⟩ := upto_of c8 (by omega)
    rw [sFm, if_neg c8, cl_nI (by omega)] at hQ
    refine wp_iload_2 dX6_film_11 ?_
    refine wp_iconst (v := 1) dX6_film_12 rfl ?_
    refine wp_bipush (v := 24) dX6_film_13 rfl ?_
    refine wp_callS_3 kX6_46 dX6_film_15 (c_X6_within ?_) ⟨Nat.le_of_ble_eq_true rfl, Nat.le_of_ble_eq_true rfl, Nat.le_of_ble_eq_true rfl⟩ (Nat.le_of_ble_eq_true rfl)
    refine wp_if_eq (tgt := 36) dX6_film_18 rfl (fun c18 => ?_) (fun c18 => ?_)
    · refine wp_iconst (v := (-1)) dX6_film_36 rfl ?_
      refine wp_iret dX6_film_37 rfl rfl ?_
      first
        | (rw [sFm, if_pos c8] at hQ; exact hQ)
        | (rw [if_pos c18] at hQ; exact hQ)
        | (rw [if_neg c18, if_pos c25] at hQ; exact hQ)
        | (rw [if_pos c33] at hQ; exact hQ)
    · refine wp_iload_3 dX6_film_21 ?_
      refine wp_callS_1 kX6_212 dX6_film_22 (c_X6_isSheet ?_) ⟨Nat.le_of_ble_eq_true rfl, Nat.le_of_ble_eq_true rfl, Nat.le_of_ble_eq_true rfl⟩ (Nat.le_of_ble_eq_true rfl)
      refine wp_if_eq (tgt := 36) dX6_film_25 rfl (fun c25 => ?_) (fun c25 => ?_)
      · refine wp_iconst (v := (-1)) dX6_film_36 rfl ?_
        refine wp_iret dX6_film_37 rfl rfl ?_
        first
          | (rw [sFm, if_pos c8] at hQ; exact hQ)
          | (rw [if_pos c18] at hQ; exact hQ)
          | (rw [if_neg c18, if_pos c25] at hQ; exact hQ)
          | (rw [if_pos c33] at hQ; exact hQ)
      · obtain ⟨s, hs0, hs1, rfl⟩ := rng_of (a := 0) (b := 3) c25 (by decide) (by decide)
        have hs : s < 4 := by omega
        rw [if_neg c18, if_neg c25, cl_nI (by omega)] at hQ
        refine wp_iload_4 dX6_film_28 ?_
        refine wp_callS_1 kX6_215 dX6_film_30 (c_X6_isLane ?_) ⟨Nat.le_of_ble_eq_true rfl, Nat.le_of_ble_eq_true rfl, Nat.le_of_ble_eq_true rfl⟩ (Nat.le_of_ble_eq_true rfl)
        refine wp_if_ne (tgt := 38) dX6_film_33 rfl (fun c33 => ?_) (fun c33 => ?_)
        · refine wp_rload_0 dX6_film_38 ?_
          refine wp_getR (t := 111) fX6_41 dX6_film_39 kd_0 rfl (rf_0_5) ?_
          refine wp_iload_3 dX6_film_42 ?_
          refine wp_aald (j := s) (t := (112 + 2 * s)) dX6_film_43 (Or.inr kd_111) (rfl) (by rw [ln_111]; omega) (rf_111 _) ?_
          refine wp_iload_4 dX6_film_44 ?_
          refine wp_iload_5 dX6_film_46 ?_
          refine wp_iload_2 dX6_film_48 ?_
          refine wp_callV_3 kX6_218 dX6_film_49 (sh_at hs).1 rfl (c_X2_refusal (sh_at hs) ?_) ⟨Nat.le_of_ble_eq_true rfl, Nat.le_of_ble_eq_true rfl, Nat.le_of_ble_eq_true rfl⟩ (Nat.le_of_ble_eq_true rfl)
          refine wp_istore_6 dX6_film_52 (Nat.le_of_ble_eq_true rfl) rfl ?_
          refine wp_iload_6 dX6_film_54 ?_
          refine wp_if_eq (tgt := 62) dX6_film_56 rfl (fun c56 => ?_) (fun c56 => ?_)
          · obtain ⟨len, hl1, hl2⟩ := hl s hs
            obtain ⟨a2, b2, hab, rfl, rfl⟩ := has_ok hl1 hl2 (rfS_ok c56)
            rw [if_neg c33, if_pos c56, cl_nI (by omega), cl_nI (by omega)] at hQ
            refine wp_iconst (v := 0) dX6_film_62 rfl ?_
            refine wp_istore_7 dX6_film_63 (Nat.le_of_ble_eq_true rfl) rfl ?_
            refine l_X6_film (by omega) hs (by omega) hy ?_ b2 0 (by omega)
            refine wp_iload_2 dX6_film_105 ?_
            refine wp_iret dX6_film_106 rfl rfl ?_
            exact hQ
          · refine wp_iload_6 dX6_film_59 ?_
            refine wp_iret dX6_film_61 rfl rfl ?_
            rw [if_neg c33, if_neg c56] at hQ
            exact hQ
        · refine wp_iconst (v := (-1)) dX6_film_36 rfl ?_
          refine wp_iret dX6_film_37 rfl rfl ?_
          first
            | (rw [sFm, if_pos c8] at hQ; exact hQ)
            | (rw [if_pos c18] at hQ; exact hQ)
            | (rw [if_neg c18, if_pos c25] at hQ; exact hQ)
            | (rw [if_pos c33] at hQ; exact hQ)
def sCp (M : MM) (x a y b z : Int32) : MM × Int32 := if wi x 0 3 = 0 then (M, -1) else if wi y 0 3 = 0 then (M, -1) else if M.1 (112 + 2 * cl x) 1 = 0 then (M, -11) else if M.1 (112 + 2 * cl y) 1 = 0 then (M, -11) else if ¬ M.1 (112 + 2 * cl x) 2 = M.1 (112 + 2 * cl y) 2 then (M, -12) else if hsS (M.1 (112 + 2 * cl x) 3) a z = 0 then (M, -13) else if hsS (M.1 (112 + 2 * cl y) 3) b z = 0 then (M, -13) else (rL M (112 + 2 * cl y + 1) (va_cpy (M.2 (112 + 2 * cl x + 1)) (M.2 (112 + 2 * cl y + 1)) (cl a) (cl b) (cl z)), z)
set_option maxRecDepth 100000 in
set_option maxHeartbeats 4000000 in
theorem c_X6_copy {κ : KX} {M : MM} {Q : Option Value → va_W → Prop} {x a y b z : Int32} (hl : ∀ s, s < 4 → ∃ len, M.1 (112 + 2 * s) 3 = nI len ∧ len ≤ 24) (hQ : Q (some (.int (sCp M x a y b z).2)) (wM κ ((sCp M x a y b z).1))) : CT κ (2, 0, 0) mX6_copy [rv κ 0, .int x, .int a, .int y, .int b, .int z] (wM κ M) Q := by
  refine CT.of okX6_copy [some (rv κ 0), some (.int x), some (.int a), some (.int y), some (.int b), some (.int z)] (Nat.le_of_ble_eq_true rfl) rfl ?_
  refine wp_iload_1 dX6_copy_0 ?_
  refine wp_callS_1 kX6_212 dX6_copy_1 (c_X6_isSheet ?_) ⟨Nat.le_of_ble_eq_true rfl, Nat.le_of_ble_eq_true rfl, Nat.le_of_ble_eq_true rfl⟩ (Nat.le_of_ble_eq_true rfl)
  refine wp_if_eq (tgt := 14) dX6_copy_4 rfl (fun c4 => ?_) (fun c4 => ?_)
  · refine wp_iconst (v := (-1)) dX6_copy_14 rfl ?_
    refine wp_iret dX6_copy_15 rfl rfl ?_
    first
      | (rw [sCp, if_pos c4] at hQ; exact hQ)
      | (rw [if_pos c11] at hQ; exact hQ)
  · obtain ⟨s, hs0, hs1, rfl⟩ := rng_of (a := 0) (b := 3) c4 (by decide) (by decide)
    have hs : s < 4 := by omega
    rw [sCp, if_neg c4, cl_nI (by omega)] at hQ
    refine wp_iload_3 dX6_copy_7 ?_
    refine wp_callS_1 kX6_212 dX6_copy_8 (c_X6_isSheet ?_) ⟨Nat.le_of_ble_eq_true rfl, Nat.le_of_ble_eq_true rfl, Nat.le_of_ble_eq_true rfl⟩ (Nat.le_of_ble_eq_true rfl)
    refine wp_if_ne (tgt := 16) dX6_copy_11 rfl (fun c11 => ?_) (fun c11 => ?_)
    · obtain ⟨t, ht0, ht1, rfl⟩ := rng_of (a := 0) (b := 3) c11 (by decide) (by decide)
      have ht : t < 4 := by omega
      rw [if_neg c11, cl_nI (by omega)] at hQ
      refine wp_rload_0 dX6_copy_16 ?_
      refine wp_getR (t := 111) fX6_41 dX6_copy_17 kd_0 rfl (rf_0_5) ?_
      refine wp_iload_1 dX6_copy_20 ?_
      refine wp_aald (j := s) (t := (112 + 2 * s)) dX6_copy_21 (Or.inr kd_111) (rfl) (by rw [ln_111]; omega) (rf_111 _) ?_
      refine wp_getI fX6_236 dX6_copy_22 (sh_at hs).1 rfl ?_
      refine wp_if_eq (tgt := 40) dX6_copy_25 rfl (fun c25 => ?_) (fun c25 => ?_)
      · refine wp_bipush (v := (-11)) dX6_copy_40 rfl ?_
        refine wp_iret dX6_copy_42 rfl rfl ?_
        first
          | (rw [if_pos c25] at hQ; exact hQ)
          | (rw [if_neg c25, if_pos c37] at hQ; exact hQ)
      · refine wp_rload_0 dX6_copy_28 ?_
        refine wp_getR (t := 111) fX6_41 dX6_copy_29 kd_0 rfl (rf_0_5) ?_
        refine wp_iload_3 dX6_copy_32 ?_
        refine wp_aald (j := t) (t := (112 + 2 * t)) dX6_copy_33 (Or.inr kd_111) (rfl) (by rw [ln_111]; omega) (rf_111 _) ?_
        refine wp_getI fX6_236 dX6_copy_34 (sh_at ht).1 rfl ?_
        refine wp_if_ne (tgt := 43) dX6_copy_37 rfl (fun c37 => ?_) (fun c37 => ?_)
        · refine wp_rload_0 dX6_copy_43 ?_
          refine wp_getR (t := 111) fX6_41 dX6_copy_44 kd_0 rfl (rf_0_5) ?_
          refine wp_iload_1 dX6_copy_47 ?_
          refine wp_aald (j := s) (t := (112 + 2 * s)) dX6_copy_48 (Or.inr kd_111) (rfl) (by rw [ln_111]; omega) (rf_111 _) ?_
          refine wp_getI fX6_240 dX6_copy_49 (sh_at hs).1 rfl ?_
          refine wp_rload_0 dX6_copy_52 ?_
          refine wp_getR (t := 111) fX6_41 dX6_copy_53 kd_0 rfl (rf_0_5) ?_
          refine wp_iload_3 dX6_copy_56 ?_
          refine wp_aald (j := t) (t := (112 + 2 * t)) dX6_copy_57 (Or.inr kd_111) (rfl) (by rw [ln_111]; omega) (rf_111 _) ?_
          refine wp_getI fX6_240 dX6_copy_58 (sh_at ht).1 rfl ?_
          refine wp_icmp_eq (tgt := 67) dX6_copy_61 rfl (fun c61 => ?_) (fun c61 => ?_)
          · refine wp_rload_0 dX6_copy_67 ?_
            refine wp_getR (t := 111) fX6_41 dX6_copy_68 kd_0 rfl (rf_0_5) ?_
            refine wp_iload_1 dX6_copy_71 ?_
            refine wp_aald (j := s) (t := (112 + 2 * s)) dX6_copy_72 (Or.inr kd_111) (rfl) (by rw [ln_111]; omega) (rf_111 _) ?_
            refine wp_iload_2 dX6_copy_73 ?_
            refine wp_iload_5 dX6_copy_74 ?_
            refine wp_callV_2 kX6_243 dX6_copy_76 (sh_at hs).1 rfl (c_X2_has (sh_at hs) ?_) ⟨Nat.le_of_ble_eq_true rfl, Nat.le_of_ble_eq_true rfl, Nat.le_of_ble_eq_true rfl⟩ (Nat.le_of_ble_eq_true rfl)
            refine wp_if_eq (tgt := 98) dX6_copy_79 rfl (fun c79 => ?_) (fun c79 => ?_)
            · refine wp_bipush (v := (-13)) dX6_copy_98 rfl ?_
              refine wp_iret dX6_copy_100 rfl rfl ?_
              first
                | (rw [if_neg c25, if_neg c37, if_neg (fun q => q c61), if_pos c79] at hQ; exact hQ)
                | (rw [if_neg c25, if_neg c37, if_neg (fun q => q c61), if_neg c79, if_pos c95] at hQ; exact hQ)
            · refine wp_rload_0 dX6_copy_82 ?_
              refine wp_getR (t := 111) fX6_41 dX6_copy_83 kd_0 rfl (rf_0_5) ?_
              refine wp_iload_3 dX6_copy_86 ?_
              refine wp_aald (j := t) (t := (112 + 2 * t)) dX6_copy_87 (Or.inr kd_111) (rfl) (by rw [ln_111]; omega) (rf_111 _) ?_
              refine wp_iload_4 dX6_copy_88 ?_
              refine wp_iload_5 dX6_copy_90 ?_
              refine wp_callV_2 kX6_243 dX6_copy_92 (sh_at ht).1 rfl (c_X2_has (sh_at ht) ?_) ⟨Nat.le_of_ble_eq_true rfl, Nat.le_of_ble_eq_true rfl, Nat.le_of_ble_eq_true rfl⟩ (Nat.le_of_ble_eq_true rfl)
              refine wp_if_ne (tgt := 101) dX6_copy_95 rfl (fun c95 => ?_) (fun c95 => ?_)
              · obtain ⟨len, hl1, hl2⟩ := hl s hs
                obtain ⟨len2, hl3, hl4⟩ := hl t ht
                obtain ⟨a2, z2, hab, rfl, rfl⟩ := has_ok hl1 hl2 c79
                obtain ⟨b2, z3, hab2, rfl, hz3⟩ := has_ok hl3 hl4 c95
                have hz4 : z2 = z3 := (nI_eq (by omega) (by omega)).mp hz3
                subst hz4
                rw [if_neg c25, if_neg c37, if_neg (fun q => q c61), if_neg c79, if_neg c95, cl_nI (by omega), cl_nI (by omega), cl_nI (by omega)] at hQ
                refine wp_rload_0 dX6_copy_101 ?_
                refine wp_getR (t := 111) fX6_41 dX6_copy_102 kd_0 rfl (rf_0_5) ?_
                refine wp_iload_1 dX6_copy_105 ?_
                refine wp_aald (j := s) (t := (112 + 2 * s)) dX6_copy_106 (Or.inr kd_111) (rfl) (by rw [ln_111]; omega) (rf_111 _) ?_
                refine wp_getR (t := (112 + 2 * s + 1)) fX6_247 dX6_copy_107 (sh_at hs).1 rfl (rf_sh (sh_at hs).1 0) ?_
                refine wp_iload_2 dX6_copy_110 ?_
                refine wp_rload_0 dX6_copy_111 ?_
                refine wp_getR (t := 111) fX6_41 dX6_copy_112 kd_0 rfl (rf_0_5) ?_
                refine wp_iload_3 dX6_copy_115 ?_
                refine wp_aald (j := t) (t := (112 + 2 * t)) dX6_copy_116 (Or.inr kd_111) (rfl) (by rw [ln_111]; omega) (rf_111 _) ?_
                refine wp_getR (t := (112 + 2 * t + 1)) fX6_247 dX6_copy_117 (sh_at ht).1 rfl (rf_sh (sh_at ht).1 0) ?_
                refine wp_iload_4 dX6_copy_120 ?_
                refine wp_iload_5 dX6_copy_122 ?_
                refine wp_copyl (a := a2) (b := b2) (z := z2) kX6_251 dX6_copy_124 (sh_at hs).2.1 (sh_at ht).2.1 (rfl) (rfl) (rfl) (by rw [(sh_at hs).2.2]; omega) (by rw [(sh_at ht).2.2]; omega) (Nat.le_of_ble_eq_true rfl) (Nat.le_of_ble_eq_true rfl) ?_
                refine wp_iload_5 dX6_copy_127 ?_
                refine wp_iret dX6_copy_129 rfl rfl ?_
                exact hQ
              · refine wp_bipush (v := (-13)) dX6_copy_98 rfl ?_
                refine wp_iret dX6_copy_100 rfl rfl ?_
                first
                  | (rw [if_neg c25, if_neg c37, if_neg (fun q => q c61), if_pos c79] at hQ; exact hQ)
                  | (rw [if_neg c25, if_neg c37, if_neg (fun q => q c61), if_neg c79, if_pos c95] at hQ; exact hQ)
          · refine wp_bipush (v := (-12)) dX6_copy_64 rfl ?_
            refine wp_iret dX6_copy_66 rfl rfl ?_
            rw [if_neg c25, if_neg c37, if_pos c61] at hQ
            exact hQ
        · refine wp_bipush (v := (-11)) dX6_copy_40 rfl ?_
          refine wp_iret dX6_copy_42 rfl rfl ?_
          first
            | (rw [if_pos c25] at hQ; exact hQ)
            | (rw [if_neg c25, if_pos c37] at hQ; exact hQ)
    · refine wp_iconst (v := (-1)) dX6_copy_14 rfl ?_
      refine wp_iret dX6_copy_15 rfl rfl ?_
      first
        | (rw [sCp, if_pos c4] at hQ; exact hQ)
        | (rw [if_pos c11] at hQ; exact hQ)
