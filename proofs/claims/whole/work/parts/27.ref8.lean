/-! the reference: the sheets -/
theorem lgc_le (x y : Int64) : lg_cmp x y ≤ 0 ↔ x ≤ y := by rw [← Int32.not_lt, lgc_gt, Int64.not_lt]
section WPC
variable {κ : KX} {r : RM} {y : MD} {pc : Nat} {L : List (Option Value)} {st : List Value} {w : va_W} {ct : Nat × Nat} {Q : Option Value → va_W → Prop}
theorem wp_rei {a b : Int32} (h : a = b) (k : WP κ r y pc L (.int b :: st) w ct Q) : WP κ r y pc L (.int a :: st) w ct Q := by
  rw [h]
  exact k
end WPC
theorem fnd_c (x z l : Int32) : (lg_cmp (x.toInt64 + z.toInt64) l.toInt64 ≤ 0) ↔ x.toInt + z.toInt ≤ l.toInt := by
  have hx := Int32.toInt_lt x
  have hx' := Int32.le_toInt x
  have hz := Int32.toInt_lt z
  have hz' := Int32.le_toInt z
  rw [lgc_le, Int64.le_iff_toInt_le, Int64.toInt_add, Int32.toInt_toInt64, Int32.toInt_toInt64, Int32.toInt_toInt64, Int.bmod_eq_of_le (by omega) (by omega)]
def fnd (Z N : Nat → Int32) (s : Nat) (l x z : Int32) : Int32 := if 0 ≤ N s then (if Z s = l then (if x < 0 then -13 else if x.toInt + z.toInt ≤ (N s).toInt then 0 else -13) else -12) else -11
theorem fnd_ok {Z N : Nat → Int32} {s : Nat} {l x z : Int32} (hN : N s ≤ 24) (hz : ¬ z < 0) (h : 0 ≤ fnd Z N s l x z) : ∃ a b, a + b ≤ 24 ∧ x = nI a ∧ z = nI b := by
  unfold fnd at h
  by_cases h1 : 0 ≤ N s
  · rw [if_pos h1] at h
    by_cases h2 : Z s = l
    · rw [if_pos h2] at h
      by_cases h3 : x < 0
      · rw [if_pos h3] at h
        exact absurd h (by decide)
      · rw [if_neg h3] at h
        by_cases h4 : x.toInt + z.toInt ≤ (N s).toInt
        · have e0 : (0 : Int32).toInt = 0 := rfl
          have e24 : (24 : Int32).toInt = 24 := rfl
          rw [i32_lt, e0] at h3 hz
          rw [i32_le, e24] at hN
          refine ⟨x.toInt.toNat, z.toInt.toNat, by omega, ?_, ?_⟩
          · rw [i32_eq, nI_toInt (by omega)]
            omega
          · rw [i32_eq, nI_toInt (by omega)]
            omega
        · rw [if_neg h4] at h
          exact absurd h (by decide)
    · rw [if_neg h2] at h
      exact absurd h (by decide)
  · rw [if_neg h1] at h
    exact absurd h (by decide)
theorem rL_1 (M : MM) (k : Nat) (m : Nat → Int64) : (rL M k m).1 = M.1 := rfl
theorem rL_at (M : MM) (k : Nat) (m : Nat → Int64) : (rL M k m).2 k = m := by simp [rL]
theorem rIL_at (M : MM) (k q : Nat) (m : Nat → Int64) (h : Nat → Int32) : (rI (rL M k m) q h).2 k = m := by simp [rL, rI]
theorem sL_rL (M : MM) (k j : Nat) (m : Nat → Int64) (v : Int64) : sL (rL M k m) k j v = rL M k (vp_updL m j v) := by
  refine Prod.ext rfl ?_
  funext a
  by_cases ha : a = k
  · subst ha; simp [rL, sL]
  · simp [rL, sL, ha]
theorem sL_rIL (M : MM) (k q j : Nat) (m : Nat → Int64) (h : Nat → Int32) (v : Int64) : sL (rI (rL M k m) q h) k j v = rI (rL M k (vp_updL m j v)) q h := by
  refine Prod.ext rfl ?_
  funext a
  by_cases ha : a = k
  · subst ha; simp [rL, sL, rI]
  · simp [rL, sL, ha, rI]
theorem ix24 (s : Nat) : (24 : Int32) * nI s = nI (24 * s) := pk_mul 24 s
theorem bsh_ok {x l : Int32} (h : ¬ bshS x l = 0) : ∃ s, s < 4 ∧ x = nI s ∧ ¬ wi l 0 3 = 0 := by
  by_cases h1 : wi x 0 3 = 0
  · exact absurd (if_pos h1) h
  · by_cases h2 : wi l 0 3 = 0
    · exact absurd ((if_neg h1).trans (if_pos h2)) h
    · obtain ⟨s, hs1, hs2, hs3⟩ := rng_of (a := 0) (b := 3) h1 (by decide) (by decide)
      exact ⟨s, by omega, hs3, h2⟩
set_option maxRecDepth 100000 in
set_option maxHeartbeats 4000000 in
theorem c_X7_found {κ : KX} {M : MM} {Q : Option Value → va_W → Prop} {s : Nat} {l x z : Int32} (hs : s < 4) (hQ : Q (some (.int (fnd (M.1 126) (M.1 127) s l x z))) (wM κ (M))) : CT κ (0, 0, 0) mX7_found [rv κ 120, .int (nI s), .int l, .int x, .int z] (wM κ M) Q := by
  refine CT.of okX7_found [some (rv κ 120), some (.int (nI s)), some (.int l), some (.int x), some (.int z)] (Nat.le_of_ble_eq_true rfl) rfl ?_
  refine wp_rload_0 dX7_found_0 ?_
  refine wp_getR (t := 127) fX7_28 dX7_found_1 kd_120 rfl (rf_120_8) ?_
  refine wp_iload_1 dX7_found_4 ?_
  refine wp_ald (j := s) dX7_found_5 ar_127 (rfl) (by omega) ?_
  refine wp_if_ge (tgt := 12) dX7_found_6 rfl (fun c6 => ?_) (fun c6 => ?_)
  · refine wp_rload_0 dX7_found_12 ?_
    refine wp_getR (t := 126) fX7_25 dX7_found_13 kd_120 rfl (rf_120_7) ?_
    refine wp_iload_1 dX7_found_16 ?_
    refine wp_ald (j := s) dX7_found_17 ar_126 (rfl) (by omega) ?_
    refine wp_iload_2 dX7_found_18 ?_
    refine wp_icmp_eq (tgt := 25) dX7_found_19 rfl (fun c19 => ?_) (fun c19 => ?_)
    · refine wp_iload_3 dX7_found_25 ?_
      refine wp_if_lt (tgt := 46) dX7_found_26 rfl (fun c26 => ?_) (fun c26 => ?_)
      · refine wp_bipush (v := (-13)) dX7_found_46 rfl ?_
        refine wp_goto (tgt := 52) dX7_found_48 rfl ?_
        refine wp_iret dX7_found_52 rfl rfl ?_
        first
          | exact Qe hQ (by rw [fnd, if_neg c6]) rfl
          | exact Qe hQ (by rw [fnd, if_pos c6, if_neg c19]) rfl
          | exact Qe hQ (by rw [fnd, if_pos c6, if_pos c19, if_pos c26]) rfl
          | exact Qe hQ (by rw [fnd, if_pos c6, if_pos c19, if_neg c26, if_pos ((fnd_c _ _ _).mp c43)]) rfl
          | exact Qe hQ (by rw [fnd, if_pos c6, if_pos c19, if_neg c26, if_neg (fun q => c43 ((fnd_c _ _ _).mpr q))]) rfl
      · refine wp_iload_3 dX7_found_29 ?_
        refine wp_i2l dX7_found_30 ?_
        refine wp_iload_4 dX7_found_31 ?_
        refine wp_i2l dX7_found_33 ?_
        refine wp_ladd dX7_found_34 ?_
        refine wp_rload_0 dX7_found_35 ?_
        refine wp_getR (t := 127) fX7_28 dX7_found_36 kd_120 rfl (rf_120_8) ?_
        refine wp_iload_1 dX7_found_39 ?_
        refine wp_ald (j := s) dX7_found_40 ar_127 (rfl) (by omega) ?_
        refine wp_i2l dX7_found_41 ?_
        refine wp_lcmp dX7_found_42 ?_
        refine wp_if_le (tgt := 51) dX7_found_43 rfl (fun c43 => ?_) (fun c43 => ?_)
        · refine wp_iconst (v := 0) dX7_found_51 rfl ?_
          refine wp_iret dX7_found_52 rfl rfl ?_
          first
            | exact Qe hQ (by rw [fnd, if_neg c6]) rfl
            | exact Qe hQ (by rw [fnd, if_pos c6, if_neg c19]) rfl
            | exact Qe hQ (by rw [fnd, if_pos c6, if_pos c19, if_pos c26]) rfl
            | exact Qe hQ (by rw [fnd, if_pos c6, if_pos c19, if_neg c26, if_pos ((fnd_c _ _ _).mp c43)]) rfl
            | exact Qe hQ (by rw [fnd, if_pos c6, if_pos c19, if_neg c26, if_neg (fun q => c43 ((fnd_c _ _ _).mpr q))]) rfl
        · refine wp_bipush (v := (-13)) dX7_found_46 rfl ?_
          refine wp_goto (tgt := 52) dX7_found_48 rfl ?_
          refine wp_iret dX7_found_52 rfl rfl ?_
          first
            | exact Qe hQ (by rw [fnd, if_neg c6]) rfl
            | exact Qe hQ (by rw [fnd, if_pos c6, if_neg c19]) rfl
            | exact Qe hQ (by rw [fnd, if_pos c6, if_pos c19, if_pos c26]) rfl
            | exact Qe hQ (by rw [fnd, if_pos c6, if_pos c19, if_neg c26, if_pos ((fnd_c _ _ _).mp c43)]) rfl
            | exact Qe hQ (by rw [fnd, if_pos c6, if_pos c19, if_neg c26, if_neg (fun q => c43 ((fnd_c _ _ _).mpr q))]) rfl
    · refine wp_bipush (v := (-12)) dX7_found_22 rfl ?_
      refine wp_iret dX7_found_24 rfl rfl ?_
      first
        | exact Qe hQ (by rw [fnd, if_neg c6]) rfl
        | exact Qe hQ (by rw [fnd, if_pos c6, if_neg c19]) rfl
        | exact Qe hQ (by rw [fnd, if_pos c6, if_pos c19, if_pos c26]) rfl
        | exact Qe hQ (by rw [fnd, if_pos c6, if_pos c19, if_neg c26, if_pos ((fnd_c _ _ _).mp c43)]) rfl
        | exact Qe hQ (by rw [fnd, if_pos c6, if_pos c19, if_neg c26, if_neg (fun q => c43 ((fnd_c _ _ _).mpr q))]) rfl
  · refine wp_bipush (v := (-11)) dX7_found_9 rfl ?_
    refine wp_iret dX7_found_11 rfl rfl ?_
    first
      | exact Qe hQ (by rw [fnd, if_neg c6]) rfl
      | exact Qe hQ (by rw [fnd, if_pos c6, if_neg c19]) rfl
      | exact Qe hQ (by rw [fnd, if_pos c6, if_pos c19, if_pos c26]) rfl
      | exact Qe hQ (by rw [fnd, if_pos c6, if_pos c19, if_neg c26, if_pos ((fnd_c _ _ _).mp c43)]) rfl
      | exact Qe hQ (by rw [fnd, if_pos c6, if_pos c19, if_neg c26, if_neg (fun q => c43 ((fnd_c _ _ _).mpr q))]) rfl
set_option maxRecDepth 100000 in
set_option maxHeartbeats 4000000 in
theorem c_X7_cut {κ : KX} {M : MM} {Q : Option Value → va_W → Prop} {l : Int32} {v : Int64}  (hQ : Q (some (.long (ctS l v))) (wM κ (M))) : CT κ (0, 0, 0) mX7_cut [.int l, .long v] (wM κ M) Q := by
  refine CT.of okX7_cut [some (.int l), some (.long v), none] (Nat.le_of_ble_eq_true rfl) rfl ?_
  refine wp_iload_0 dX7_cut_0 ?_
  refine wp_if_ne (tgt := 11) dX7_cut_1 rfl (fun c1 => ?_) (fun c1 => ?_)
  · refine wp_iload_0 dX7_cut_11 ?_
    refine wp_iconst (v := 1) dX7_cut_12 rfl ?_
    refine wp_icmp_ne (tgt := 23) dX7_cut_13 rfl (fun c13 => ?_) (fun c13 => ?_)
    · refine wp_iload_0 dX7_cut_23 ?_
      refine wp_iconst (v := 2) dX7_cut_24 rfl ?_
      refine wp_icmp_ne (tgt := 34) dX7_cut_25 rfl (fun c25 => ?_) (fun c25 => ?_)
      · refine wp_lload_1 dX7_cut_34 ?_
        refine wp_lret dX7_cut_35 rfl rfl ?_
        first
          | (rw [ctS, if_neg c1, if_neg c13, if_neg c25] at hQ; exact hQ)
          | (rw [ctS, if_neg c1, if_neg c13, if_pos c25] at hQ; exact hQ)
          | (rw [ctS, if_neg c1, if_pos c13] at hQ; exact hQ)
          | (rw [ctS, if_pos c1] at hQ; exact hQ)
      · refine wp_lload_1 dX7_cut_28 ?_
        refine wp_l2i dX7_cut_29 ?_
        refine wp_i2l dX7_cut_30 ?_
        refine wp_goto (tgt := 35) dX7_cut_31 rfl ?_
        refine wp_lret dX7_cut_35 rfl rfl ?_
        first
          | (rw [ctS, if_neg c1, if_neg c13, if_neg c25] at hQ; exact hQ)
          | (rw [ctS, if_neg c1, if_neg c13, if_pos c25] at hQ; exact hQ)
          | (rw [ctS, if_neg c1, if_pos c13] at hQ; exact hQ)
          | (rw [ctS, if_pos c1] at hQ; exact hQ)
    · refine wp_lload_1 dX7_cut_16 ?_
      refine wp_l2i dX7_cut_17 ?_
      refine wp_i2s dX7_cut_18 ?_
      refine wp_i2l dX7_cut_19 ?_
      refine wp_goto (tgt := 35) dX7_cut_20 rfl ?_
      refine wp_lret dX7_cut_35 rfl rfl ?_
      first
        | (rw [ctS, if_neg c1, if_neg c13, if_neg c25] at hQ; exact hQ)
        | (rw [ctS, if_neg c1, if_neg c13, if_pos c25] at hQ; exact hQ)
        | (rw [ctS, if_neg c1, if_pos c13] at hQ; exact hQ)
        | (rw [ctS, if_pos c1] at hQ; exact hQ)
  · refine wp_lload_1 dX7_cut_4 ?_
    refine wp_l2i dX7_cut_5 ?_
    refine wp_i2b dX7_cut_6 ?_
    refine wp_i2l dX7_cut_7 ?_
    refine wp_goto (tgt := 35) dX7_cut_8 rfl ?_
    refine wp_lret dX7_cut_35 rfl rfl ?_
    first
      | (rw [ctS, if_neg c1, if_neg c13, if_neg c25] at hQ; exact hQ)
      | (rw [ctS, if_neg c1, if_neg c13, if_pos c25] at hQ; exact hQ)
      | (rw [ctS, if_neg c1, if_pos c13] at hQ; exact hQ)
      | (rw [ctS, if_pos c1] at hQ; exact hQ)
def zrL (m : Nat → Int64) (a : Nat) : Nat → Nat → Int64
  | 0 => m
  | j + 1 => vp_updL (zrL m a j) (a + j) 0
def tSh (M : MM) (m : Nat → Int64) (x l z : Int32) : MM × Int32 := if bshS x l = 0 then (rL M 128 m, -1) else if z ≤ 24 then (if 0 ≤ z then (rL (sI (sI M 127 (cl x) z) 126 (cl x) l) 128 (zrL m (24 * cl x) 24), z) else (rL M 128 m, -14)) else (rL M 128 m, -1)
set_option maxRecDepth 100000 in
set_option maxHeartbeats 4000000 in
theorem l_X7_sheet {κ : KX} {M : MM} {Q : Option Value → va_W → Prop} {m : Nat → Int64} {s : Nat} {l z : Int32} (hs : s < 4) (hx : WP κ (2, 0, 0) mX7_sheet 66 [some (rv κ 120), some (.int (nI s)), some (.int l), some (.int z), some (.int (nI 24))] [] (wM κ (rL M 128 (zrL m (24 * s) 24))) (0, 0) Q) : ∀ n j, j + n = 24 → WP κ (2, 0, 0) mX7_sheet 40 [some (rv κ 120), some (.int (nI s)), some (.int l), some (.int z), some (.int (nI j))] [] (wM κ (rL M 128 (zrL m (24 * s) j))) (0, 0) Q := by
  intro n
  induction n with
  | zero =>
    intro j hn
    have hn : j = 24 := hn
    refine wp_iload_4 dX7_sheet_40 ?_
    refine wp_bipush (v := 24) dX7_sheet_42 rfl ?_
    refine wp_icmp_ge (tgt := 66) dX7_sheet_44 rfl (fun c44 => ?_) (fun c44 => absurd (nI_le (a := 24) (by omega) (by omega)) c44)
    subst hn
    exact hx
  | succ n ih =>
    intro j hn
    refine wp_iload_4 dX7_sheet_40 ?_
    refine wp_bipush (v := 24) dX7_sheet_42 rfl ?_
    refine wp_icmp_ge (tgt := 66) dX7_sheet_44 rfl (fun c44 => absurd c44 (nI_ge (b := 24) (by omega) (by omega))) (fun c44 => ?_)
    refine wp_rload_0 dX7_sheet_47 ?_
    refine wp_getR (t := 128) fX7_31 dX7_sheet_48 kd_120 rfl (rf_120_9) ?_
    refine wp_bipush (v := 24) dX7_sheet_51 rfl ?_
    refine wp_iload_1 dX7_sheet_53 ?_
    refine wp_imul dX7_sheet_54 ?_
    refine wp_iload_4 dX7_sheet_55 ?_
    refine wp_iadd dX7_sheet_57 ?_
    refine wp_lconst (v := 0) dX7_sheet_58 rfl ?_
    refine wp_last (j := ((24 * s) + j)) dX7_sheet_59 kd_128 ((congr (congrArg HAdd.hAdd (ix24 s)) (rfl)).trans (nI_add _ _)) (by rw [ln_128]; omega) ?_
    rw [sL_rL]
    refine wp_iinc_4 (v := nI (j + 1)) dX7_sheet_60 (nI_inc _) (Nat.le_of_ble_eq_true rfl) rfl ?_
    refine wp_goto (tgt := 40) dX7_sheet_63 rfl ?_
    exact ih (j + 1) (by omega)
set_option maxRecDepth 100000 in
set_option maxHeartbeats 4000000 in
theorem c_X7_sheet {κ : KX} {M : MM} {Q : Option Value → va_W → Prop} {m : Nat → Int64} {x l z : Int32}  (hQ : Q (some (.int (tSh M m x l z).2)) (wM κ ((tSh M m x l z).1))) : CT κ (2, 0, 0) mX7_sheet [rv κ 120, .int x, .int l, .int z] (wM κ (rL M 128 m)) Q := by
  refine CT.of okX7_sheet [some (rv κ 120), some (.int x), some (.int l), some (.int z), none] (Nat.le_of_ble_eq_true rfl) rfl ?_
  refine wp_iload_1 dX7_sheet_0 ?_
  refine wp_iload_2 dX7_sheet_1 ?_
  refine wp_callS_2 kX7_203 dX7_sheet_2 (c_X7_isSheet ?_) ⟨Nat.le_of_ble_eq_true rfl, Nat.le_of_ble_eq_true rfl, Nat.le_of_ble_eq_true rfl⟩ (Nat.le_of_ble_eq_true rfl)
  refine wp_if_eq (tgt := 14) dX7_sheet_5 rfl (fun c5 => ?_) (fun c5 => ?_)
  · refine wp_iconst (v := (-1)) dX7_sheet_14 rfl ?_
    refine wp_iret dX7_sheet_15 rfl rfl ?_
    first
      | (rw [tSh, if_pos c5] at hQ; exact hQ)
      | (rw [if_neg c11] at hQ; exact hQ)
  · obtain ⟨s, hs, rfl, hl4⟩ := bsh_ok c5
    rw [tSh, if_neg c5, cl_nI (by omega)] at hQ
    refine wp_iload_3 dX7_sheet_8 ?_
    refine wp_bipush (v := 24) dX7_sheet_9 rfl ?_
    refine wp_icmp_le (tgt := 16) dX7_sheet_11 rfl (fun c11 => ?_) (fun c11 => ?_)
    · refine wp_iload_3 dX7_sheet_16 ?_
      refine wp_if_ge (tgt := 23) dX7_sheet_17 rfl (fun c17 => ?_) (fun c17 => ?_)
      · refine wp_rload_0 dX7_sheet_23 ?_
        refine wp_getR (t := 127) fX7_28 dX7_sheet_24 kd_120 rfl (rf_120_8) ?_
        refine wp_iload_1 dX7_sheet_27 ?_
        refine wp_iload_3 dX7_sheet_28 ?_
        refine wp_ast (j := s) dX7_sheet_29 ar_127 (rfl) (by omega) ?_
        refine wp_rload_0 dX7_sheet_30 ?_
        refine wp_getR (t := 126) fX7_25 dX7_sheet_31 kd_120 rfl (rf_120_7) ?_
        refine wp_iload_1 dX7_sheet_34 ?_
        refine wp_iload_2 dX7_sheet_35 ?_
        refine wp_ast (j := s) dX7_sheet_36 ar_126 (rfl) (by omega) ?_
        rw [show sI (sI (rL M 128 m) 127 s z) 126 s l = rL (sI (sI M 127 s z) 126 s l) 128 m from rfl]
        refine wp_iconst (v := 0) dX7_sheet_37 rfl ?_
        refine wp_istore_4 dX7_sheet_38 (Nat.le_of_ble_eq_true rfl) rfl ?_
        refine l_X7_sheet hs ?_ 24 0 (by omega)
        refine wp_iload_3 dX7_sheet_66 ?_
        refine wp_iret dX7_sheet_67 rfl rfl ?_
        rw [if_pos c11, if_pos c17] at hQ
        exact hQ
      · refine wp_bipush (v := (-14)) dX7_sheet_20 rfl ?_
        refine wp_iret dX7_sheet_22 rfl rfl ?_
        rw [if_pos c11, if_neg c17] at hQ
        exact hQ
    · refine wp_iconst (v := (-1)) dX7_sheet_14 rfl ?_
      refine wp_iret dX7_sheet_15 rfl rfl ?_
      first
        | (rw [tSh, if_pos c5] at hQ; exact hQ)
        | (rw [if_neg c11] at hQ; exact hQ)
def tDp (M : MM) (x : Int32) : MM × Int32 := if wi x 0 3 = 0 then (M, -1) else if 0 ≤ M.1 127 (cl x) then (sI M 127 (cl x) (-1), M.1 127 (cl x)) else (M, -11)
set_option maxRecDepth 100000 in
set_option maxHeartbeats 4000000 in
theorem c_X7_drop {κ : KX} {M : MM} {Q : Option Value → va_W → Prop} {x : Int32}  (hQ : Q (some (.int (tDp M x).2)) (wM κ ((tDp M x).1))) : CT κ (1, 0, 0) mX7_drop [rv κ 120, .int x] (wM κ M) Q := by
  refine CT.of okX7_drop [some (rv κ 120), some (.int x), none] (Nat.le_of_ble_eq_true rfl) rfl ?_
  refine wp_iload_1 dX7_drop_0 ?_
  refine wp_i2l dX7_drop_1 ?_
  refine wp_lconst (v := 0) dX7_drop_2 rfl ?_
  refine wp_ldc2 nX7_86 dX7_drop_3 ?_
  refine wp_callS_3 kX7_43 dX7_drop_6 (c_X7_in (lo := 0) (hi := 3) (by decide) (by decide) ?_) ⟨Nat.le_of_ble_eq_true rfl, Nat.le_of_ble_eq_true rfl, Nat.le_of_ble_eq_true rfl⟩ (Nat.le_of_ble_eq_true rfl)
  refine wp_if_ne (tgt := 14) dX7_drop_9 rfl (fun c9 => ?_) (fun c9 => ?_)
  · obtain ⟨s, hs0, hs1, rfl⟩ := rng_of (a := 0) (b := 3) c9 (by decide) (by decide)
    rw [tDp, if_neg c9, cl_nI (by omega)] at hQ
    refine wp_rload_0 dX7_drop_14 ?_
    refine wp_getR (t := 127) fX7_28 dX7_drop_15 kd_120 rfl (rf_120_8) ?_
    refine wp_iload_1 dX7_drop_18 ?_
    refine wp_ald (j := s) dX7_drop_19 ar_127 (rfl) (by omega) ?_
    refine wp_if_ge (tgt := 26) dX7_drop_20 rfl (fun c20 => ?_) (fun c20 => ?_)
    · refine wp_rload_0 dX7_drop_26 ?_
      refine wp_getR (t := 127) fX7_28 dX7_drop_27 kd_120 rfl (rf_120_8) ?_
      refine wp_iload_1 dX7_drop_30 ?_
      refine wp_ald (j := s) dX7_drop_31 ar_127 (rfl) (by omega) ?_
      refine wp_istore_2 dX7_drop_32 (Nat.le_of_ble_eq_true rfl) rfl ?_
      refine wp_rload_0 dX7_drop_33 ?_
      refine wp_getR (t := 127) fX7_28 dX7_drop_34 kd_120 rfl (rf_120_8) ?_
      refine wp_iload_1 dX7_drop_37 ?_
      refine wp_iconst (v := (-1)) dX7_drop_38 rfl ?_
      refine wp_ast (j := s) dX7_drop_39 ar_127 (rfl) (by omega) ?_
      refine wp_iload_2 dX7_drop_40 ?_
      refine wp_iret dX7_drop_41 rfl rfl ?_
      rw [if_pos c20] at hQ
      exact hQ
    · refine wp_bipush (v := (-11)) dX7_drop_23 rfl ?_
      refine wp_iret dX7_drop_25 rfl rfl ?_
      rw [if_neg c20] at hQ
      exact hQ
  · refine wp_iconst (v := (-1)) dX7_drop_12 rfl ?_
    refine wp_iret dX7_drop_13 rfl rfl ?_
    rw [tDp, if_pos c9] at hQ
    exact hQ
def tIt (M : MM) (m : Nat → Int64) (x l a : Int32) (v : Int64) : MM × Int32 := if bshS x l = 0 then (rL M 128 m, -1) else if 0 ≤ fnd (M.1 126) (M.1 127) (cl x) l a 1 then (rL M 128 (vp_updL m (24 * cl x + cl a) (ctS l v)), 1) else (rL M 128 m, fnd (M.1 126) (M.1 127) (cl x) l a 1)
set_option maxRecDepth 100000 in
set_option maxHeartbeats 4000000 in
theorem c_X7_item {κ : KX} {M : MM} {Q : Option Value → va_W → Prop} {m : Nat → Int64} {x l a : Int32} {v : Int64} (hN : ∀ s, s < 4 → M.1 127 s ≤ 24) (hQ : Q (some (.int (tIt M m x l a v).2)) (wM κ ((tIt M m x l a v).1))) : CT κ (2, 0, 0) mX7_item [rv κ 120, .int x, .int l, .int a, .long v] (wM κ (rL M 128 m)) Q := by
  refine CT.of okX7_item [some (rv κ 120), some (.int x), some (.int l), some (.int a), some (.long v), none, none] (Nat.le_of_ble_eq_true rfl) rfl ?_
  refine wp_iload_1 dX7_item_0 ?_
  refine wp_iload_2 dX7_item_1 ?_
  refine wp_callS_2 kX7_203 dX7_item_2 (c_X7_isSheet ?_) ⟨Nat.le_of_ble_eq_true rfl, Nat.le_of_ble_eq_true rfl, Nat.le_of_ble_eq_true rfl⟩ (Nat.le_of_ble_eq_true rfl)
  refine wp_if_ne (tgt := 10) dX7_item_5 rfl (fun c5 => ?_) (fun c5 => ?_)
  · obtain ⟨s, hs, rfl, hl4⟩ := bsh_ok c5
    rw [tIt, if_neg c5, cl_nI (by omega)] at hQ
    refine wp_rload_0 dX7_item_10 ?_
    refine wp_iload_1 dX7_item_11 ?_
    refine wp_iload_2 dX7_item_12 ?_
    refine wp_iload_3 dX7_item_13 ?_
    refine wp_iconst (v := 1) dX7_item_14 rfl ?_
    refine wp_callV_4 kX7_208 dX7_item_15 kd_120 rfl (c_X7_found (M := rL M 128 m) hs ?_) ⟨Nat.le_of_ble_eq_true rfl, Nat.le_of_ble_eq_true rfl, Nat.le_of_ble_eq_true rfl⟩ (Nat.le_of_ble_eq_true rfl)
    rw [rL_1]
    refine wp_istore_6 dX7_item_18 (Nat.le_of_ble_eq_true rfl) rfl ?_
    refine wp_iload_6 dX7_item_20 ?_
    refine wp_if_ge (tgt := 28) dX7_item_22 rfl (fun c22 => ?_) (fun c22 => ?_)
    · obtain ⟨a2, b2, hab, rfl, hb2⟩ := fnd_ok (hN s hs) (by decide) c22
      have hb3 : b2 = 1 := ((nI_eq (a := 1) (b := b2) (by decide) (by omega)).mp hb2).symm
      rw [if_pos c22, cl_nI (by omega)] at hQ
      refine wp_rload_0 dX7_item_28 ?_
      refine wp_getR (t := 128) fX7_31 dX7_item_29 kd_120 rfl (rf_120_9) ?_
      refine wp_bipush (v := 24) dX7_item_32 rfl ?_
      refine wp_iload_1 dX7_item_34 ?_
      refine wp_imul dX7_item_35 ?_
      refine wp_iload_3 dX7_item_36 ?_
      refine wp_iadd dX7_item_37 ?_
      refine wp_iload_2 dX7_item_38 ?_
      refine wp_lload_4 dX7_item_39 ?_
      refine wp_callS_2 kX7_214 dX7_item_41 (c_X7_cut ?_) ⟨Nat.le_of_ble_eq_true rfl, Nat.le_of_ble_eq_true rfl, Nat.le_of_ble_eq_true rfl⟩ (Nat.le_of_ble_eq_true rfl)
      refine wp_last (j := ((24 * s) + a2)) dX7_item_44 kd_128 ((congr (congrArg HAdd.hAdd (ix24 s)) (rfl)).trans (nI_add _ _)) (by rw [ln_128]; omega) ?_
      rw [sL_rL]
      refine wp_iconst (v := 1) dX7_item_45 rfl ?_
      refine wp_iret dX7_item_46 rfl rfl ?_
      exact hQ
    · refine wp_iload_6 dX7_item_25 ?_
      refine wp_iret dX7_item_27 rfl rfl ?_
      rw [if_neg c22] at hQ
      exact hQ
  · refine wp_iconst (v := (-1)) dX7_item_8 rfl ?_
    refine wp_iret dX7_item_9 rfl rfl ?_
    rw [tIt, if_pos c5] at hQ
    exact hQ
def flH (f h : Nat → Int32) (g : Nat) : Nat → Nat → Int32
  | 0 => lyF f h
  | j + 1 => goN g 1 (flH f h g j)
theorem flH_fr (f h : Nat → Int32) (g : Nat) (h6 : g ≤ 6) {a : Nat} (h3 : a ≠ 3) (ha : a < 16) : ∀ j, flH f h g j a = f a
  | 0 => lyF_in f h (by omega)
  | j + 1 => by rw [flH, goN_fr g h6 h3 (by omega)]; exact flH_fr f h g h6 h3 ha j
def flL (f h : Nat → Int32) (g w : Nat) (l : Int32) (a : Nat) (m : Nat → Int64) : Nat → Nat → Int64
  | 0 => m
  | j + 1 => vp_updL (flL f h g w l a m j) (a + j) (ctS l (flH f h g (j + 1) (27 + w)).toInt64)
def tFm (M : MM) (m : Nat → Int64) (h : Nat → Int32) (g : Nat) (x z y l a : Int32) : MM × Int32 := if wi x 0 (nI (g - 1) - 1) = 0 then (rI (rL M 128 m) 122 h, -1) else if wi z 1 24 = 0 then (rI (rL M 128 m) 122 h, -1) else if bshS y l = 0 then (rI (rL M 128 m) 122 h, -1) else if 0 ≤ fnd (M.1 126) (M.1 127) (cl y) l a z then (rI (rL M 128 (flL (M.1 121) h g (cl x) l (24 * cl y + cl a) m (cl z))) 122 (flH (M.1 121) h g (cl z)), z) else (rI (rL M 128 m) 122 h, fnd (M.1 126) (M.1 127) (cl y) l a z)
set_option maxRecDepth 100000 in
set_option maxHeartbeats 4000000 in
theorem l_X7_film {κ : KX} {M : MM} {Q : Option Value → va_W → Prop} {m : Nat → Int64} {h : Nat → Int32} {g w s a b : Nat} {l z : Int32} (hg : M.1 121 0 = nI g) (h6 : g ≤ 6) (hy : 0 < M.1 121 1) (hw : w < 5) (hs : s < 4) (hab : a + b ≤ 24) (hx : WP κ (4, 0, 0) mX7_film 105 [some (rv κ 120), some (.int (nI w)), some (.int (nI b)), some (.int (nI s)), some (.int l), some (.int (nI a)), some (.int z), some (.int (nI b))] [] (wM κ (rI (rL M 128 (flL (M.1 121) h g w l (24 * s + a) m b)) 122 (flH (M.1 121) h g b))) (0, 0) Q) : ∀ n j, j + n = b → WP κ (4, 0, 0) mX7_film 58 [some (rv κ 120), some (.int (nI w)), some (.int (nI b)), some (.int (nI s)), some (.int l), some (.int (nI a)), some (.int z), some (.int (nI j))] [] (wM κ (rI (rL M 128 (flL (M.1 121) h g w l (24 * s + a) m j)) 122 (flH (M.1 121) h g j))) (0, 0) Q := by
  intro n
  induction n with
  | zero =>
    intro j hn
    have hn : j = b := hn
    refine wp_iload_7 dX7_film_58 ?_
    refine wp_iload_2 dX7_film_60 ?_
    refine wp_icmp_ge (tgt := 105) dX7_film_61 rfl (fun c61 => ?_) (fun c61 => absurd (nI_le (by omega) (by omega)) c61)
    subst hn
    exact hx
  | succ n ih =>
    intro j hn
    refine wp_iload_7 dX7_film_58 ?_
    refine wp_iload_2 dX7_film_60 ?_
    refine wp_icmp_ge (tgt := 105) dX7_film_61 rfl (fun c61 => absurd c61 (nI_ge (by omega) (by omega))) (fun c61 => ?_)
    refine wp_rload_0 dX7_film_64 ?_
    refine wp_iconst (v := 1) dX7_film_65 rfl ?_
    refine wp_callV_1 kX7_187 dX7_film_66 kd_120 rfl (c_X7_go (M := rL M 128 (flL (M.1 121) h g w l (24 * s + a) m j)) (g := g) (m := 1) (h := (flH (M.1 121) h g j)) (by rw [flH_fr _ _ g h6 (by decide) (by decide)]; exact hg) h6 (by rw [flH_fr _ _ g h6 (by decide) (by decide)]; exact hy) (by decide) ?_) ⟨Nat.le_of_ble_eq_true rfl, Nat.le_of_ble_eq_true rfl, Nat.le_of_ble_eq_true rfl⟩ (Nat.le_of_ble_eq_true rfl)
    refine wp_rload_0 dX7_film_69 ?_
    refine wp_getR (t := 128) fX7_31 dX7_film_70 kd_120 rfl (rf_120_9) ?_
    refine wp_bipush (v := 24) dX7_film_73 rfl ?_
    refine wp_iload_3 dX7_film_75 ?_
    refine wp_imul dX7_film_76 ?_
    refine wp_iload_5 dX7_film_77 ?_
    refine wp_iadd dX7_film_79 ?_
    refine wp_iload_7 dX7_film_80 ?_
    refine wp_iadd dX7_film_82 ?_
    refine wp_iload_4 dX7_film_83 ?_
    refine wp_rload_0 dX7_film_85 ?_
    refine wp_getR (t := 122) fX7_13 dX7_film_86 kd_120 rfl (rf_120_1) ?_
    refine wp_bipush (v := 27) dX7_film_89 rfl ?_
    refine wp_iload_1 dX7_film_91 ?_
    refine wp_iadd dX7_film_92 ?_
    refine wp_aldF (j := (27 + w)) dX7_film_93 ar_122 (nI_add _ _) (by omega) ?_
    refine wp_i2l dX7_film_94 ?_
    refine wp_callS_2 kX7_214 dX7_film_95 (c_X7_cut ?_) ⟨Nat.le_of_ble_eq_true rfl, Nat.le_of_ble_eq_true rfl, Nat.le_of_ble_eq_true rfl⟩ (Nat.le_of_ble_eq_true rfl)
    refine wp_last (j := (((24 * s) + a) + j)) dX7_film_98 kd_128 ((congr (congrArg HAdd.hAdd ((congr (congrArg HAdd.hAdd (ix24 s)) (rfl)).trans (nI_add _ _))) (rfl)).trans (nI_add _ _)) (by rw [ln_128]; omega) ?_
    rw [sL_rIL]
    refine wp_iinc_7 (v := nI (j + 1)) dX7_film_99 (nI_inc _) (Nat.le_of_ble_eq_true rfl) rfl ?_
    refine wp_goto (tgt := 58) dX7_film_102 rfl ?_
    exact ih (j + 1) (by omega)
set_option maxRecDepth 100000 in
set_option maxHeartbeats 4000000 in
theorem c_X7_film {κ : KX} {M : MM} {Q : Option Value → va_W → Prop} {m : Nat → Int64} {h : Nat → Int32} {g : Nat} {x z y l a : Int32} (hg : M.1 121 0 = nI g) (h6 : g ≤ 6) (hy : 0 < M.1 121 1) (hN : ∀ s, s < 4 → M.1 127 s ≤ 24) (hQ : Q (some (.int (tFm M m h g x z y l a).2)) (wM κ ((tFm M m h g x z y l a).1))) : CT κ (4, 0, 0) mX7_film [rv κ 120, .int x, .int z, .int y, .int l, .int a] (wM κ (rI (rL M 128 m) 122 h)) Q := by
  refine CT.of okX7_film [some (rv κ 120), some (.int x), some (.int z), some (.int y), some (.int l), some (.int a), none, none] (Nat.le_of_ble_eq_true rfl) rfl ?_
  refine wp_rload_0 dX7_film_0 ?_
  refine wp_iload_1 dX7_film_1 ?_
  refine wp_callV_1 kX7_83 dX7_film_2 kd_120 rfl (c_X7_isWall (M := rI (rL M 128 m) 122 h) (by rw [rI_ne _ _ (by decide)]; exact hg) h6 ?_) ⟨Nat.le_of_ble_eq_true rfl, Nat.le_of_ble_eq_true rfl, Nat.le_of_ble_eq_true rfl⟩ (Nat.le_of_ble_eq_true rfl)
  refine wp_if_eq (tgt := 29) dX7_film_5 rfl (fun c5 => ?_) (fun c5 => ?_)
  · refine wp_iconst (v := (-1)) dX7_film_29 rfl ?_
    refine wp_iret dX7_film_30 rfl rfl ?_
    first
      | (rw [tFm, if_pos c5] at hQ; exact hQ)
      | (rw [if_pos c17] at hQ; exact hQ)
      | (rw [if_neg c17, if_pos c26] at hQ; exact hQ)
  · obtain ⟨w, hw, rfl⟩ := upto_of c5 (by omega)
    rw [tFm, if_neg c5, cl_nI (by omega)] at hQ
    refine wp_iload_2 dX7_film_8 ?_
    refine wp_i2l dX7_film_9 ?_
    refine wp_lconst (v := 1) dX7_film_10 rfl ?_
    refine wp_ldc2 nX7_212 dX7_film_11 ?_
    refine wp_callS_3 kX7_43 dX7_film_14 (c_X7_in (lo := 1) (hi := 24) (by decide) (by decide) ?_) ⟨Nat.le_of_ble_eq_true rfl, Nat.le_of_ble_eq_true rfl, Nat.le_of_ble_eq_true rfl⟩ (Nat.le_of_ble_eq_true rfl)
    refine wp_if_eq (tgt := 29) dX7_film_17 rfl (fun c17 => ?_) (fun c17 => ?_)
    · refine wp_iconst (v := (-1)) dX7_film_29 rfl ?_
      refine wp_iret dX7_film_30 rfl rfl ?_
      first
        | (rw [tFm, if_pos c5] at hQ; exact hQ)
        | (rw [if_pos c17] at hQ; exact hQ)
        | (rw [if_neg c17, if_pos c26] at hQ; exact hQ)
    · refine wp_iload_3 dX7_film_20 ?_
      refine wp_iload_4 dX7_film_21 ?_
      refine wp_callS_2 kX7_203 dX7_film_23 (c_X7_isSheet ?_) ⟨Nat.le_of_ble_eq_true rfl, Nat.le_of_ble_eq_true rfl, Nat.le_of_ble_eq_true rfl⟩ (Nat.le_of_ble_eq_true rfl)
      refine wp_if_ne (tgt := 31) dX7_film_26 rfl (fun c26 => ?_) (fun c26 => ?_)
      · obtain ⟨s, hs, rfl, hl4⟩ := bsh_ok c26
        rw [if_neg c17, if_neg c26, cl_nI (by omega)] at hQ
        refine wp_rload_0 dX7_film_31 ?_
        refine wp_iload_3 dX7_film_32 ?_
        refine wp_iload_4 dX7_film_33 ?_
        refine wp_iload_5 dX7_film_35 ?_
        refine wp_iload_2 dX7_film_37 ?_
        refine wp_callV_4 kX7_208 dX7_film_38 kd_120 rfl (c_X7_found (M := rI (rL M 128 m) 122 h) hs ?_) ⟨Nat.le_of_ble_eq_true rfl, Nat.le_of_ble_eq_true rfl, Nat.le_of_ble_eq_true rfl⟩ (Nat.le_of_ble_eq_true rfl)
        rw [rI_ne _ _ (by decide), rI_ne _ _ (by decide), rL_1]
        refine wp_istore_6 dX7_film_41 (Nat.le_of_ble_eq_true rfl) rfl ?_
        refine wp_iload_6 dX7_film_43 ?_
        refine wp_if_ge (tgt := 51) dX7_film_45 rfl (fun c45 => ?_) (fun c45 => ?_)
        · obtain ⟨b0, hb0, hb1, rfl⟩ := rng_of (a := 1) (b := 24) c17 (by decide) (by decide)
          obtain ⟨a2, b2, hab, rfl, hb2⟩ := fnd_ok (hN s hs) (nI_nlt (b := 0) (by omega) (by omega)) c45
          have hb3 : b0 = b2 := (nI_eq (by omega) (by omega)).mp hb2
          subst hb3
          rw [if_pos c45, cl_nI (by omega), cl_nI (by omega)] at hQ
          refine wp_rload_0 dX7_film_51 ?_
          refine wp_callV_0 kX7_184 dX7_film_52 kd_120 rfl (c_X7_layAside (M := rL M 128 m) ?_) ⟨Nat.le_of_ble_eq_true rfl, Nat.le_of_ble_eq_true rfl, Nat.le_of_ble_eq_true rfl⟩ (Nat.le_of_ble_eq_true rfl)
          refine wp_iconst (v := 0) dX7_film_55 rfl ?_
          refine wp_istore_7 dX7_film_56 (Nat.le_of_ble_eq_true rfl) rfl ?_
          refine l_X7_film (m := m) (h := h) hg h6 hy (by omega) hs hab ?_ b0 0 (by omega)
          refine wp_iload_2 dX7_film_105 ?_
          refine wp_iret dX7_film_106 rfl rfl ?_
          exact hQ
        · refine wp_iload_6 dX7_film_48 ?_
          refine wp_iret dX7_film_50 rfl rfl ?_
          rw [if_neg c45] at hQ
          exact hQ
      · refine wp_iconst (v := (-1)) dX7_film_29 rfl ?_
        refine wp_iret dX7_film_30 rfl rfl ?_
        first
          | (rw [tFm, if_pos c5] at hQ; exact hQ)
          | (rw [if_pos c17] at hQ; exact hQ)
          | (rw [if_neg c17, if_pos c26] at hQ; exact hQ)
def cpI (a b z j : Nat) : Nat := if b ≤ a then j else z - 1 - j
def cpL (m : Nat → Int64) (s t a b z : Nat) : Nat → Nat → Int64
  | 0 => m
  | j + 1 => vp_updL (cpL m s t a b z j) (24 * t + b + cpI a b z j) (cpL m s t a b z j (24 * s + a + cpI a b z j))
def tCp (M : MM) (m : Nat → Int64) (x a y b z : Int32) : MM × Int32 := if wi x 0 3 = 0 then (rL M 128 m, -1) else if wi y 0 3 = 0 then (rL M 128 m, -1) else if M.1 127 (cl x) < 0 then (rL M 128 m, -11) else if 0 ≤ M.1 127 (cl y) then (if M.1 126 (cl x) = M.1 126 (cl y) then (if z < 0 then (rL M 128 m, -13) else if fnd (M.1 126) (M.1 127) (cl x) (M.1 126 (cl x)) a z < 0 then (rL M 128 m, -13) else if 0 ≤ fnd (M.1 126) (M.1 127) (cl y) (M.1 126 (cl y)) b z then (rL M 128 (cpL m (cl x) (cl y) (cl a) (cl b) (cl z) (cl z)), z) else (rL M 128 m, -13)) else (rL M 128 m, -12)) else (rL M 128 m, -11)
theorem ixz {z j : Nat} (h : j < z) : nI z - 1 - nI j = nI (z - 1 - j) := by
  rw [nI_sub1 (by omega), pk_sub (by omega)]
set_option maxRecDepth 100000 in
set_option maxHeartbeats 4000000 in
theorem l_X7_copy {κ : KX} {M : MM} {Q : Option Value → va_W → Prop} {m : Nat → Int64} {s t a b z : Nat} (hs : s < 4) (ht : t < 4) (ha : a + z ≤ 24) (hb : b + z ≤ 24) (hx : WP κ (1, 0, 0) mX7_copy 173 [some (rv κ 120), some (.int (nI s)), some (.int (nI a)), some (.int (nI t)), some (.int (nI b)), some (.int (nI z)), some (.int (nI z)), none] [] (wM κ (rL M 128 (cpL m s t a b z z))) (0, 0) Q) : ∀ n j, j + n = z → WP κ (1, 0, 0) mX7_copy 111 [some (rv κ 120), some (.int (nI s)), some (.int (nI a)), some (.int (nI t)), some (.int (nI b)), some (.int (nI z)), some (.int (nI j)), none] [] (wM κ (rL M 128 (cpL m s t a b z j))) (0, 0) Q := by
  intro n
  induction n with
  | zero =>
    intro j hn
    have hn : j = z := hn
    refine wp_iload_6 dX7_copy_111 ?_
    refine wp_iload_5 dX7_copy_113 ?_
    refine wp_icmp_ge (tgt := 173) dX7_copy_115 rfl (fun c115 => ?_) (fun c115 => absurd (nI_le (by omega) (by omega)) c115)
    subst hn
    exact hx
  | succ n ih =>
    intro j hn
    have hci : cpI a b z j < z := by unfold cpI; split <;> omega
    refine wp_iload_6 dX7_copy_111 ?_
    refine wp_iload_5 dX7_copy_113 ?_
    refine wp_icmp_ge (tgt := 173) dX7_copy_115 rfl (fun c115 => absurd c115 (nI_ge (by omega) (by omega))) (fun c115 => ?_)
    refine wp_iload_4 dX7_copy_118 ?_
    refine wp_iload_2 dX7_copy_120 ?_
    refine wp_icmp_le (tgt := 134) dX7_copy_121 rfl (fun c121 => ?_) (fun c121 => ?_)
    · have hci0 : nI j = nI (cpI a b z j) := congrArg nI (if_pos (Nat.le_of_not_lt (fun q => nI_ge q (by omega) c121))).symm
      refine wp_iload_6 dX7_copy_134 ?_
      refine wp_rei hci0 ?_
      refine wp_istore_7 dX7_copy_136 (Nat.le_of_ble_eq_true rfl) rfl ?_
      refine wp_rload_0 dX7_copy_138 ?_
      refine wp_getR (t := 128) fX7_31 dX7_copy_139 kd_120 rfl (rf_120_9) ?_
      refine wp_bipush (v := 24) dX7_copy_142 rfl ?_
      refine wp_iload_3 dX7_copy_144 ?_
      refine wp_imul dX7_copy_145 ?_
      refine wp_iload_4 dX7_copy_146 ?_
      refine wp_iadd dX7_copy_148 ?_
      refine wp_iload_7 dX7_copy_149 ?_
      refine wp_iadd dX7_copy_151 ?_
      refine wp_rload_0 dX7_copy_152 ?_
      refine wp_getR (t := 128) fX7_31 dX7_copy_153 kd_120 rfl (rf_120_9) ?_
      refine wp_bipush (v := 24) dX7_copy_156 rfl ?_
      refine wp_iload_1 dX7_copy_158 ?_
      refine wp_imul dX7_copy_159 ?_
      refine wp_iload_2 dX7_copy_160 ?_
      refine wp_iadd dX7_copy_161 ?_
      refine wp_iload_7 dX7_copy_162 ?_
      refine wp_iadd dX7_copy_164 ?_
      refine wp_lald (j := (((24 * s) + a) + (cpI a b z j))) dX7_copy_165 kd_128 ((congr (congrArg HAdd.hAdd ((congr (congrArg HAdd.hAdd (ix24 s)) (rfl)).trans (nI_add _ _))) (rfl)).trans (nI_add _ _)) (by rw [ln_128]; omega) ?_
      rw [rL_at]
      refine wp_last (j := (((24 * t) + b) + (cpI a b z j))) dX7_copy_166 kd_128 ((congr (congrArg HAdd.hAdd ((congr (congrArg HAdd.hAdd (ix24 t)) (rfl)).trans (nI_add _ _))) (rfl)).trans (nI_add _ _)) (by rw [ln_128]; omega) ?_
      rw [sL_rL]
      refine wp_iinc_6 (v := nI (j + 1)) dX7_copy_167 (nI_inc _) (Nat.le_of_ble_eq_true rfl) rfl ?_
      refine wp_goto (tgt := 111) dX7_copy_170 rfl ?_
      refine wp_drop_7 ?_
      exact ih (j + 1) (by omega)
    · have hci0 : nI z - 1 - nI j = nI (cpI a b z j) := by rw [ixz (by omega)]; exact congrArg nI (if_neg (fun q => c121 (nI_le q (by omega)))).symm
      refine wp_iload_5 dX7_copy_124 ?_
      refine wp_iconst (v := 1) dX7_copy_126 rfl ?_
      refine wp_isub dX7_copy_127 ?_
      refine wp_iload_6 dX7_copy_128 ?_
      refine wp_isub dX7_copy_130 ?_
      refine wp_goto (tgt := 136) dX7_copy_131 rfl ?_
      refine wp_rei hci0 ?_
      refine wp_istore_7 dX7_copy_136 (Nat.le_of_ble_eq_true rfl) rfl ?_
      refine wp_rload_0 dX7_copy_138 ?_
      refine wp_getR (t := 128) fX7_31 dX7_copy_139 kd_120 rfl (rf_120_9) ?_
      refine wp_bipush (v := 24) dX7_copy_142 rfl ?_
      refine wp_iload_3 dX7_copy_144 ?_
      refine wp_imul dX7_copy_145 ?_
      refine wp_iload_4 dX7_copy_146 ?_
      refine wp_iadd dX7_copy_148 ?_
      refine wp_iload_7 dX7_copy_149 ?_
      refine wp_iadd dX7_copy_151 ?_
      refine wp_rload_0 dX7_copy_152 ?_
      refine wp_getR (t := 128) fX7_31 dX7_copy_153 kd_120 rfl (rf_120_9) ?_
      refine wp_bipush (v := 24) dX7_copy_156 rfl ?_
      refine wp_iload_1 dX7_copy_158 ?_
      refine wp_imul dX7_copy_159 ?_
      refine wp_iload_2 dX7_copy_160 ?_
      refine wp_iadd dX7_copy_161 ?_
      refine wp_iload_7 dX7_copy_162 ?_
      refine wp_iadd dX7_copy_164 ?_
      refine wp_lald (j := (((24 * s) + a) + (cpI a b z j))) dX7_copy_165 kd_128 ((congr (congrArg HAdd.hAdd ((congr (congrArg HAdd.hAdd (ix24 s)) (rfl)).trans (nI_add _ _))) (rfl)).trans (nI_add _ _)) (by rw [ln_128]; omega) ?_
      rw [rL_at]
      refine wp_last (j := (((24 * t) + b) + (cpI a b z j))) dX7_copy_166 kd_128 ((congr (congrArg HAdd.hAdd ((congr (congrArg HAdd.hAdd (ix24 t)) (rfl)).trans (nI_add _ _))) (rfl)).trans (nI_add _ _)) (by rw [ln_128]; omega) ?_
      rw [sL_rL]
      refine wp_iinc_6 (v := nI (j + 1)) dX7_copy_167 (nI_inc _) (Nat.le_of_ble_eq_true rfl) rfl ?_
      refine wp_goto (tgt := 111) dX7_copy_170 rfl ?_
      refine wp_drop_7 ?_
      exact ih (j + 1) (by omega)
set_option maxRecDepth 100000 in
set_option maxHeartbeats 4000000 in
theorem c_X7_copy {κ : KX} {M : MM} {Q : Option Value → va_W → Prop} {m : Nat → Int64} {x a y b z : Int32} (hN : ∀ s, s < 4 → M.1 127 s ≤ 24) (hQ : Q (some (.int (tCp M m x a y b z).2)) (wM κ ((tCp M m x a y b z).1))) : CT κ (1, 0, 0) mX7_copy [rv κ 120, .int x, .int a, .int y, .int b, .int z] (wM κ (rL M 128 m)) Q := by
  refine CT.of okX7_copy [some (rv κ 120), some (.int x), some (.int a), some (.int y), some (.int b), some (.int z), none, none] (Nat.le_of_ble_eq_true rfl) rfl ?_
  refine wp_iload_1 dX7_copy_0 ?_
  refine wp_i2l dX7_copy_1 ?_
  refine wp_lconst (v := 0) dX7_copy_2 rfl ?_
  refine wp_ldc2 nX7_86 dX7_copy_3 ?_
  refine wp_callS_3 kX7_43 dX7_copy_6 (c_X7_in (lo := 0) (hi := 3) (by decide) (by decide) ?_) ⟨Nat.le_of_ble_eq_true rfl, Nat.le_of_ble_eq_true rfl, Nat.le_of_ble_eq_true rfl⟩ (Nat.le_of_ble_eq_true rfl)
  refine wp_if_eq (tgt := 24) dX7_copy_9 rfl (fun c9 => ?_) (fun c9 => ?_)
  · refine wp_iconst (v := (-1)) dX7_copy_24 rfl ?_
    refine wp_iret dX7_copy_25 rfl rfl ?_
    first
      | (rw [tCp, if_pos c9] at hQ; exact hQ)
      | (rw [if_pos c21] at hQ; exact hQ)
  · obtain ⟨s, hs0, hs1, rfl⟩ := rng_of (a := 0) (b := 3) c9 (by decide) (by decide)
    have hs : s < 4 := by omega
    rw [tCp, if_neg c9, cl_nI (by omega)] at hQ
    refine wp_iload_3 dX7_copy_12 ?_
    refine wp_i2l dX7_copy_13 ?_
    refine wp_lconst (v := 0) dX7_copy_14 rfl ?_
    refine wp_ldc2 nX7_86 dX7_copy_15 ?_
    refine wp_callS_3 kX7_43 dX7_copy_18 (c_X7_in (lo := 0) (hi := 3) (by decide) (by decide) ?_) ⟨Nat.le_of_ble_eq_true rfl, Nat.le_of_ble_eq_true rfl, Nat.le_of_ble_eq_true rfl⟩ (Nat.le_of_ble_eq_true rfl)
    refine wp_if_ne (tgt := 26) dX7_copy_21 rfl (fun c21 => ?_) (fun c21 => ?_)
    · obtain ⟨t, ht0, ht1, rfl⟩ := rng_of (a := 0) (b := 3) c21 (by decide) (by decide)
      have ht : t < 4 := by omega
      rw [if_neg c21, cl_nI (by omega)] at hQ
      refine wp_rload_0 dX7_copy_26 ?_
      refine wp_getR (t := 127) fX7_28 dX7_copy_27 kd_120 rfl (rf_120_8) ?_
      refine wp_iload_1 dX7_copy_30 ?_
      refine wp_ald (j := s) dX7_copy_31 ar_127 (rfl) (by omega) ?_
      rw [rL_1]
      refine wp_if_lt (tgt := 44) dX7_copy_32 rfl (fun c32 => ?_) (fun c32 => ?_)
      · refine wp_bipush (v := (-11)) dX7_copy_44 rfl ?_
        refine wp_iret dX7_copy_46 rfl rfl ?_
        first
          | (rw [if_pos c32] at hQ; exact hQ)
          | (rw [if_neg c41] at hQ; exact hQ)
      · rw [if_neg c32] at hQ
        refine wp_rload_0 dX7_copy_35 ?_
        refine wp_getR (t := 127) fX7_28 dX7_copy_36 kd_120 rfl (rf_120_8) ?_
        refine wp_iload_3 dX7_copy_39 ?_
        refine wp_ald (j := t) dX7_copy_40 ar_127 (rfl) (by omega) ?_
        rw [rL_1]
        refine wp_if_ge (tgt := 47) dX7_copy_41 rfl (fun c41 => ?_) (fun c41 => ?_)
        · rw [if_pos c41] at hQ
          refine wp_rload_0 dX7_copy_47 ?_
          refine wp_getR (t := 126) fX7_25 dX7_copy_48 kd_120 rfl (rf_120_7) ?_
          refine wp_iload_1 dX7_copy_51 ?_
          refine wp_ald (j := s) dX7_copy_52 ar_126 (rfl) (by omega) ?_
          rw [rL_1]
          refine wp_rload_0 dX7_copy_53 ?_
          refine wp_getR (t := 126) fX7_25 dX7_copy_54 kd_120 rfl (rf_120_7) ?_
          refine wp_iload_3 dX7_copy_57 ?_
          refine wp_ald (j := t) dX7_copy_58 ar_126 (rfl) (by omega) ?_
          rw [rL_1]
          refine wp_icmp_eq (tgt := 65) dX7_copy_59 rfl (fun c59 => ?_) (fun c59 => ?_)
          · rw [if_pos c59] at hQ
            refine wp_iload_5 dX7_copy_65 ?_
            refine wp_if_lt (tgt := 105) dX7_copy_67 rfl (fun c67 => ?_) (fun c67 => ?_)
            · refine wp_bipush (v := (-13)) dX7_copy_105 rfl ?_
              refine wp_iret dX7_copy_107 rfl rfl ?_
              first
                | (rw [if_pos c67] at hQ; exact hQ)
                | (rw [if_neg c67, if_pos c84] at hQ; exact hQ)
                | (rw [if_neg c67, if_neg c84, if_neg c102] at hQ; exact hQ)
            · refine wp_rload_0 dX7_copy_70 ?_
              refine wp_iload_1 dX7_copy_71 ?_
              refine wp_rload_0 dX7_copy_72 ?_
              refine wp_getR (t := 126) fX7_25 dX7_copy_73 kd_120 rfl (rf_120_7) ?_
              refine wp_iload_1 dX7_copy_76 ?_
              refine wp_ald (j := s) dX7_copy_77 ar_126 (rfl) (by omega) ?_
              rw [rL_1]
              refine wp_iload_2 dX7_copy_78 ?_
              refine wp_iload_5 dX7_copy_79 ?_
              refine wp_callV_4 kX7_208 dX7_copy_81 kd_120 rfl (c_X7_found (M := rL M 128 m) hs ?_) ⟨Nat.le_of_ble_eq_true rfl, Nat.le_of_ble_eq_true rfl, Nat.le_of_ble_eq_true rfl⟩ (Nat.le_of_ble_eq_true rfl)
              rw [rL_1]
              refine wp_if_lt (tgt := 105) dX7_copy_84 rfl (fun c84 => ?_) (fun c84 => ?_)
              · refine wp_bipush (v := (-13)) dX7_copy_105 rfl ?_
                refine wp_iret dX7_copy_107 rfl rfl ?_
                first
                  | (rw [if_pos c67] at hQ; exact hQ)
                  | (rw [if_neg c67, if_pos c84] at hQ; exact hQ)
                  | (rw [if_neg c67, if_neg c84, if_neg c102] at hQ; exact hQ)
              · refine wp_rload_0 dX7_copy_87 ?_
                refine wp_iload_3 dX7_copy_88 ?_
                refine wp_rload_0 dX7_copy_89 ?_
                refine wp_getR (t := 126) fX7_25 dX7_copy_90 kd_120 rfl (rf_120_7) ?_
                refine wp_iload_3 dX7_copy_93 ?_
                refine wp_ald (j := t) dX7_copy_94 ar_126 (rfl) (by omega) ?_
                rw [rL_1]
                refine wp_iload_4 dX7_copy_95 ?_
                refine wp_iload_5 dX7_copy_97 ?_
                refine wp_callV_4 kX7_208 dX7_copy_99 kd_120 rfl (c_X7_found (M := rL M 128 m) ht ?_) ⟨Nat.le_of_ble_eq_true rfl, Nat.le_of_ble_eq_true rfl, Nat.le_of_ble_eq_true rfl⟩ (Nat.le_of_ble_eq_true rfl)
                rw [rL_1]
                refine wp_if_ge (tgt := 108) dX7_copy_102 rfl (fun c102 => ?_) (fun c102 => ?_)
                · obtain ⟨a2, z2, hab, rfl, rfl⟩ := fnd_ok (hN s hs) c67 (Int32.not_lt.mp c84)
                  obtain ⟨b2, z3, hab2, rfl, hz3⟩ := fnd_ok (hN t ht) c67 c102
                  have hz4 : z2 = z3 := (nI_eq (by omega) (by omega)).mp hz3
                  subst hz4
                  rw [if_neg c67, if_neg c84, if_pos c102, cl_nI (by omega), cl_nI (by omega), cl_nI (by omega)] at hQ
                  refine wp_iconst (v := 0) dX7_copy_108 rfl ?_
                  refine wp_istore_6 dX7_copy_109 (Nat.le_of_ble_eq_true rfl) rfl ?_
                  refine l_X7_copy hs ht hab hab2 ?_ z2 0 (by omega)
                  refine wp_iload_5 dX7_copy_173 ?_
                  refine wp_iret dX7_copy_175 rfl rfl ?_
                  exact hQ
                · refine wp_bipush (v := (-13)) dX7_copy_105 rfl ?_
                  refine wp_iret dX7_copy_107 rfl rfl ?_
                  first
                    | (rw [if_pos c67] at hQ; exact hQ)
                    | (rw [if_neg c67, if_pos c84] at hQ; exact hQ)
                    | (rw [if_neg c67, if_neg c84, if_neg c102] at hQ; exact hQ)
          · refine wp_bipush (v := (-12)) dX7_copy_62 rfl ?_
            refine wp_iret dX7_copy_64 rfl rfl ?_
            rw [if_neg c59] at hQ
            exact hQ
        · refine wp_bipush (v := (-11)) dX7_copy_44 rfl ?_
          refine wp_iret dX7_copy_46 rfl rfl ?_
          first
            | (rw [if_pos c32] at hQ; exact hQ)
            | (rw [if_neg c41] at hQ; exact hQ)
    · refine wp_iconst (v := (-1)) dX7_copy_24 rfl ?_
      refine wp_iret dX7_copy_25 rfl rfl ?_
      first
        | (rw [tCp, if_pos c9] at hQ; exact hQ)
        | (rw [if_pos c21] at hQ; exact hQ)
