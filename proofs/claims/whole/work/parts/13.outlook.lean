/-! what is foretold -/
def grw (M : MM) (w : Nat) (q c k : Int32) : Int32 := asQ (q + k * wkl M w c)
set_option maxRecDepth 100000 in
set_option maxHeartbeats 4000000 in
theorem c_X0_grown {κ : KX} {M : MM} {Q : Option Value → va_W → Prop} {w : Nat} {q c k : Int32} (hw : w < 5) (hQ : Q (some (.int (grw M w q c k))) (wM κ (M))) : CT κ (2, 0, 0) mX0_grown [rv κ 101, .int (nI w), .int q, .int c, .int k] (wM κ M) Q := by
  refine CT.of okX0_grown [some (rv κ 101), some (.int (nI w)), some (.int q), some (.int c), some (.int k)] (Nat.le_of_ble_eq_true rfl) rfl ?_
  refine wp_iload_2 dX0_grown_0 ?_
  refine wp_iload_4 dX0_grown_1 ?_
  refine wp_rload_0 dX0_grown_3 ?_
  refine wp_getR (t := 1) fX0_24 dX0_grown_4 kd_101 rfl (rf_101_0) ?_
  refine wp_iload_1 dX0_grown_7 ?_
  refine wp_iload_3 dX0_grown_8 ?_
  refine wp_callV_2 kX0_28 dX0_grown_9 kd_1 rfl (c_X4_weekly hw ?_) ⟨Nat.le_of_ble_eq_true rfl, Nat.le_of_ble_eq_true rfl, Nat.le_of_ble_eq_true rfl⟩ (Nat.le_of_ble_eq_true rfl)
  refine wp_imul dX0_grown_12 ?_
  refine wp_iadd dX0_grown_13 ?_
  refine wp_callSN_1 kX0_34 dX0_grown_14 (c_X6_asQuarrel ?_) ⟨Nat.le_of_ble_eq_true rfl, Nat.le_of_ble_eq_true rfl, Nat.le_of_ble_eq_true rfl⟩ (Nat.le_of_ble_eq_true rfl)
  refine wp_iret dX0_grown_17 rfl rfl ?_
  exact hQ
def bh (M : MM) (w : Nat) : Nat → Int32 → Int32 → Int32 → Int32 → Int32 × Int32 × Int32
  | 0, q, h, l, _ => (q, h, l)
  | n + 1, q, h, l, t => if l < t then (q, h, l) else bh M w n (grw M w q h t) (grw M w q h t / 5) (l - t) (M.1 1 3)
def bhR (M : MM) (w : Nat) (wh : Int32) (x : Int32 × Int32 × Int32) : Int32 := if wh = 0 then x.2.1 else grw M w x.1 x.2.1 x.2.2
set_option maxRecDepth 100000 in
set_option maxHeartbeats 4000000 in
theorem x_X0_behind {κ : KX} {M : MM} {Q : Option Value → va_W → Prop} {w j : Nat} {nn wh q h l t : Int32} (hw : w < 5) (hQ : Q (some (.int (bhR M w wh (q, h, l)))) (wM κ M)) : WP κ (3, 0, 0) mX0_behind 99 [some (rv κ 101), some (.int (nI w)), some (.int nn), some (.int wh), some (.int q), some (.int h), some (.int l), some (.int t), some (.int (nI j))] [] (wM κ M) (0, 0) Q := by
  refine wp_iload_3 dX0_behind_99 ?_
  refine wp_if_ne (tgt := 108) dX0_behind_100 rfl (fun c100 => ?_) (fun c100 => ?_)
  · refine wp_rload_0 dX0_behind_108 ?_
    refine wp_iload_1 dX0_behind_109 ?_
    refine wp_iload_4 dX0_behind_110 ?_
    refine wp_iload_5 dX0_behind_112 ?_
    refine wp_iload_6 dX0_behind_114 ?_
    refine wp_callV_4 kX0_50 dX0_behind_116 kd_101 rfl (c_X0_grown hw ?_) ⟨Nat.le_of_ble_eq_true rfl, Nat.le_of_ble_eq_true rfl, Nat.le_of_ble_eq_true rfl⟩ (Nat.le_of_ble_eq_true rfl)
    refine wp_iret dX0_behind_119 rfl rfl ?_
    first
      | exact Qe hQ (by rw [bhR, if_neg c100]) rfl
      | exact Qe hQ (by rw [bhR, if_pos c100]) rfl
  · refine wp_iload_5 dX0_behind_103 ?_
    refine wp_goto (tgt := 119) dX0_behind_105 rfl ?_
    refine wp_iret dX0_behind_119 rfl rfl ?_
    first
      | exact Qe hQ (by rw [bhR, if_neg c100]) rfl
      | exact Qe hQ (by rw [bhR, if_pos c100]) rfl
set_option maxRecDepth 100000 in
set_option maxHeartbeats 4000000 in
theorem l_X0_behind {κ : KX} {M : MM} {Q : Option Value → va_W → Prop} {w : Nat} {nn wh : Int32} (hw : w < 5) : ∀ n j q h l t, j + n = 104 → Q (some (.int (bhR M w wh (bh M w n q h l t)))) (wM κ M) → WP κ (3, 0, 0) mX0_behind 43 [some (rv κ 101), some (.int (nI w)), some (.int nn), some (.int wh), some (.int q), some (.int h), some (.int l), some (.int t), some (.int (nI j))] [] (wM κ M) (0, 0) Q := by
  intro n
  induction n with
  | zero =>
    intro j q h l t hn hQ
    refine wp_iload_8 dX0_behind_43 ?_
    refine wp_bipush (v := 104) dX0_behind_45 rfl ?_
    refine wp_icmp_ge (tgt := 99) dX0_behind_47 rfl (fun c47 => ?_) (fun c47 => absurd (nI_le (a := 104) (by omega) (by omega)) c47)
    exact x_X0_behind hw hQ
  | succ n ih =>
    intro j q h l t hn hQ
    refine wp_iload_8 dX0_behind_43 ?_
    refine wp_bipush (v := 104) dX0_behind_45 rfl ?_
    refine wp_icmp_ge (tgt := 99) dX0_behind_47 rfl (fun c47 => absurd c47 (nI_ge (b := 104) (by omega) (by omega))) (fun c47 => ?_)
    refine wp_iload_6 dX0_behind_50 ?_
    refine wp_iload_7 dX0_behind_52 ?_
    refine wp_icmp_lt (tgt := 99) dX0_behind_54 rfl (fun c54 => ?_) (fun c54 => ?_)
    · exact x_X0_behind hw (Qe hQ (by rw [bh, if_pos c54]) rfl)
    · refine wp_rload_0 dX0_behind_57 ?_
      refine wp_iload_1 dX0_behind_58 ?_
      refine wp_iload_4 dX0_behind_59 ?_
      refine wp_iload_5 dX0_behind_61 ?_
      refine wp_iload_7 dX0_behind_63 ?_
      refine wp_callV_4 kX0_50 dX0_behind_65 kd_101 rfl (c_X0_grown hw ?_) ⟨Nat.le_of_ble_eq_true rfl, Nat.le_of_ble_eq_true rfl, Nat.le_of_ble_eq_true rfl⟩ (Nat.le_of_ble_eq_true rfl)
      refine wp_istore_4 dX0_behind_68 (Nat.le_of_ble_eq_true rfl) rfl ?_
      refine wp_iload_4 dX0_behind_70 ?_
      refine wp_callSN_1 kX0_54 dX0_behind_72 (c_X6_coursesFor ?_) ⟨Nat.le_of_ble_eq_true rfl, Nat.le_of_ble_eq_true rfl, Nat.le_of_ble_eq_true rfl⟩ (Nat.le_of_ble_eq_true rfl)
      refine wp_istore_5 dX0_behind_75 (Nat.le_of_ble_eq_true rfl) rfl ?_
      refine wp_iload_6 dX0_behind_77 ?_
      refine wp_iload_7 dX0_behind_79 ?_
      refine wp_isub dX0_behind_81 ?_
      refine wp_istore_6 dX0_behind_82 (Nat.le_of_ble_eq_true rfl) rfl ?_
      refine wp_rload_0 dX0_behind_84 ?_
      refine wp_getR (t := 1) fX0_24 dX0_behind_85 kd_101 rfl (rf_101_0) ?_
      refine wp_getI fX0_57 dX0_behind_88 kd_1 rfl ?_
      refine wp_istore_7 dX0_behind_91 (Nat.le_of_ble_eq_true rfl) rfl ?_
      refine wp_iinc_8 (v := nI (j + 1)) dX0_behind_93 (nI_inc _) (Nat.le_of_ble_eq_true rfl) rfl ?_
      refine wp_goto (tgt := 43) dX0_behind_96 rfl ?_
      exact ih (j + 1) _ _ _ _ (by omega) (Qe hQ (by rw [bh, if_neg c54]) rfl)
def bhd (M : MM) (w : Nat) (nn wh : Int32) : Int32 := bhR M w wh (bh M w 104 (M.1 6 w) (M.1 5 w) nn (wtm M))
set_option maxRecDepth 100000 in
set_option maxHeartbeats 4000000 in
theorem c_X0_behind {κ : KX} {M : MM} {Q : Option Value → va_W → Prop} {w : Nat} {nn wh : Int32} (hw : w < 5) (hy : 0 < M.1 1 3) (hQ : Q (some (.int (bhd M w nn wh))) (wM κ (M))) : CT κ (3, 0, 0) mX0_behind [rv κ 101, .int (nI w), .int nn, .int wh] (wM κ M) Q := by
  refine CT.of okX0_behind [some (rv κ 101), some (.int (nI w)), some (.int nn), some (.int wh), none, none, none, none, none] (Nat.le_of_ble_eq_true rfl) rfl ?_
  refine wp_rload_0 dX0_behind_0 ?_
  refine wp_getR (t := 1) fX0_24 dX0_behind_1 kd_101 rfl (rf_101_0) ?_
  refine wp_getR (t := 4) fX0_38 dX0_behind_4 kd_1 rfl (rf_1_5) ?_
  refine wp_getR (t := 6) fX0_42 dX0_behind_7 kd_4 rfl (rf_4_1) ?_
  refine wp_iload_1 dX0_behind_10 ?_
  refine wp_ald (j := w) dX0_behind_11 ar_6 (rfl) (by omega) ?_
  refine wp_istore_4 dX0_behind_12 (Nat.le_of_ble_eq_true rfl) rfl ?_
  refine wp_rload_0 dX0_behind_14 ?_
  refine wp_getR (t := 1) fX0_24 dX0_behind_15 kd_101 rfl (rf_101_0) ?_
  refine wp_getR (t := 4) fX0_38 dX0_behind_18 kd_1 rfl (rf_1_5) ?_
  refine wp_getR (t := 5) fX0_45 dX0_behind_21 kd_4 rfl (rf_4_0) ?_
  refine wp_iload_1 dX0_behind_24 ?_
  refine wp_ald (j := w) dX0_behind_25 ar_5 (rfl) (by omega) ?_
  refine wp_istore_5 dX0_behind_26 (Nat.le_of_ble_eq_true rfl) rfl ?_
  refine wp_iload_2 dX0_behind_28 ?_
  refine wp_istore_6 dX0_behind_29 (Nat.le_of_ble_eq_true rfl) rfl ?_
  refine wp_rload_0 dX0_behind_31 ?_
  refine wp_getR (t := 1) fX0_24 dX0_behind_32 kd_101 rfl (rf_101_0) ?_
  refine wp_callV_0 kX0_46 dX0_behind_35 kd_1 rfl (c_X4_weeksToMichaelmas hy ?_) ⟨Nat.le_of_ble_eq_true rfl, Nat.le_of_ble_eq_true rfl, Nat.le_of_ble_eq_true rfl⟩ (Nat.le_of_ble_eq_true rfl)
  refine wp_istore_7 dX0_behind_38 (Nat.le_of_ble_eq_true rfl) rfl ?_
  refine wp_iconst (v := 0) dX0_behind_40 rfl ?_
  refine wp_istore_8 dX0_behind_41 (Nat.le_of_ble_eq_true rfl) rfl ?_
  exact l_X0_behind hw 104 0 _ _ _ _ (by omega) hQ
def abh (M : MM) (nn wh : Int32) : Nat → Int32
  | 0 => 0
  | j + 1 => abh M nn wh j + bhd M j nn wh
set_option maxRecDepth 100000 in
set_option maxHeartbeats 4000000 in
theorem l_X0_allBehind {κ : KX} {M : MM} {Q : Option Value → va_W → Prop} {g : Nat} {nn wh : Int32} (hg : M.1 1 2 = nI g) (h6 : g ≤ 6) (hy : 0 < M.1 1 3) (hx : WP κ (4, 0, 0) mX0_allBehind 34 [some (rv κ 101), some (.int nn), some (.int wh), some (.int (abh M nn wh ((g - 1)))), some (.int (nI ((g - 1))))] [] (wM κ (M)) (0, 0) Q) : ∀ n j, j + n = (g - 1) → WP κ (4, 0, 0) mX0_allBehind 5 [some (rv κ 101), some (.int nn), some (.int wh), some (.int (abh M nn wh j)), some (.int (nI j))] [] (wM κ (M)) (0, 0) Q := by
  intro n
  induction n with
  | zero =>
    intro j hn
    have hn : j = (g - 1) := hn
    refine wp_iload_4 dX0_allBehind_5 ?_
    refine wp_rload_0 dX0_allBehind_7 ?_
    refine wp_getR (t := 1) fX0_24 dX0_allBehind_8 kd_101 rfl (rf_101_0) ?_
    refine wp_callV_0 kX0_61 dX0_allBehind_11 kd_1 rfl (c_X4_walls hg h6 ?_) ⟨Nat.le_of_ble_eq_true rfl, Nat.le_of_ble_eq_true rfl, Nat.le_of_ble_eq_true rfl⟩ (Nat.le_of_ble_eq_true rfl)
    refine wp_icmp_ge (tgt := 34) dX0_allBehind_14 rfl (fun c14 => ?_) (fun c14 => absurd (nI_le (by omega) (by omega)) c14)
    subst hn
    exact hx
  | succ n ih =>
    intro j hn
    refine wp_iload_4 dX0_allBehind_5 ?_
    refine wp_rload_0 dX0_allBehind_7 ?_
    refine wp_getR (t := 1) fX0_24 dX0_allBehind_8 kd_101 rfl (rf_101_0) ?_
    refine wp_callV_0 kX0_61 dX0_allBehind_11 kd_1 rfl (c_X4_walls hg h6 ?_) ⟨Nat.le_of_ble_eq_true rfl, Nat.le_of_ble_eq_true rfl, Nat.le_of_ble_eq_true rfl⟩ (Nat.le_of_ble_eq_true rfl)
    refine wp_icmp_ge (tgt := 34) dX0_allBehind_14 rfl (fun c14 => absurd c14 (nI_ge (by omega) (by omega))) (fun c14 => ?_)
    refine wp_iload_3 dX0_allBehind_17 ?_
    refine wp_rload_0 dX0_allBehind_18 ?_
    refine wp_iload_4 dX0_allBehind_19 ?_
    refine wp_iload_1 dX0_allBehind_21 ?_
    refine wp_iload_2 dX0_allBehind_22 ?_
    refine wp_callV_3 kX0_64 dX0_allBehind_23 kd_101 rfl (c_X0_behind (by omega) hy ?_) ⟨Nat.le_of_ble_eq_true rfl, Nat.le_of_ble_eq_true rfl, Nat.le_of_ble_eq_true rfl⟩ (Nat.le_of_ble_eq_true rfl)
    refine wp_iadd dX0_allBehind_26 ?_
    refine wp_istore_3 dX0_allBehind_27 (Nat.le_of_ble_eq_true rfl) rfl ?_
    refine wp_iinc_4 (v := nI (j + 1)) dX0_allBehind_28 (nI_inc _) (Nat.le_of_ble_eq_true rfl) rfl ?_
    refine wp_goto (tgt := 5) dX0_allBehind_31 rfl ?_
    exact ih (j + 1) (by omega)
set_option maxRecDepth 100000 in
set_option maxHeartbeats 4000000 in
theorem c_X0_allBehind {κ : KX} {M : MM} {Q : Option Value → va_W → Prop} {g : Nat} {nn wh : Int32} (hg : M.1 1 2 = nI g) (h6 : g ≤ 6) (hy : 0 < M.1 1 3) (hQ : Q (some (.int (abh M nn wh (g - 1)))) (wM κ (M))) : CT κ (4, 0, 0) mX0_allBehind [rv κ 101, .int nn, .int wh] (wM κ M) Q := by
  refine CT.of okX0_allBehind [some (rv κ 101), some (.int nn), some (.int wh), none, none] (Nat.le_of_ble_eq_true rfl) rfl ?_
  refine wp_iconst (v := 0) dX0_allBehind_0 rfl ?_
  refine wp_istore_3 dX0_allBehind_1 (Nat.le_of_ble_eq_true rfl) rfl ?_
  refine wp_iconst (v := 0) dX0_allBehind_2 rfl ?_
  refine wp_istore_4 dX0_allBehind_3 (Nat.le_of_ble_eq_true rfl) rfl ?_
  refine l_X0_allBehind hg h6 hy ?_ (g - 1) 0 (by omega)
  refine wp_iload_3 dX0_allBehind_34 ?_
  refine wp_iret dX0_allBehind_35 rfl rfl ?_
  exact hQ
def mc1 (P : MM) (t : Int32) (j : Nat) : MM := sI P 103 j (grw P j (P.1 103 j) (P.1 102 j) t)
def mcs (M : MM) (t : Int32) : Nat → MM × Int32
  | 0 => (M, 0)
  | j + 1 => (sI (mc1 (mcs M t j).1 t j) 102 j ((mc1 (mcs M t j).1 t j).1 103 j / 5), if (mcs M t j).2 = 0 then (if (mc1 (mcs M t j).1 t j).1 103 j / 5 = (mc1 (mcs M t j).1 t j).1 102 j then 0 else 1) else 1)
theorem mcs_01 (M : MM) (t : Int32) : ∀ j, (mcs M t j).2 = 0 ∨ (mcs M t j).2 = 1
  | 0 => Or.inl rfl
  | j + 1 => by
    simp only [mcs]
    split
    · split
      · exact Or.inl rfl
      · exact Or.inr rfl
    · exact Or.inr rfl
theorem nar01 {x : Int32} (h : x = 0 ∨ x = 1) : narrow .boolean (.int x) = .int x := by
  rcases h with rfl | rfl <;> rfl
theorem mcs_fr (M : MM) (t : Int32) {k : Nat} (h2 : k ≠ 102) (h3 : k ≠ 103) : ∀ j, (mcs M t j).1.1 k = M.1 k
  | 0 => rfl
  | j + 1 => by
    have ih := mcs_fr M t h2 h3 j
    simp [mcs, mc1, sI, h2, h3, ih]
set_option maxRecDepth 100000 in
set_option maxHeartbeats 4000000 in
theorem l_X0_michaelmasChanges {κ : KX} {M : MM} {Q : Option Value → va_W → Prop} {g : Nat} {t : Int32} (hg : M.1 1 2 = nI g) (h6 : g ≤ 6) (hx : WP κ (3, 0, 0) mX0_michaelmasChanges 85 [some (rv κ 101), some (.int t), some (.int (mcs M t ((g - 1))).2), some (.int (nI ((g - 1)))), none] [] (wM κ ((mcs M t ((g - 1))).1)) (0, 0) Q) : ∀ n j, j + n = (g - 1) → WP κ (3, 0, 0) mX0_michaelmasChanges 4 [some (rv κ 101), some (.int t), some (.int (mcs M t j).2), some (.int (nI j)), none] [] (wM κ ((mcs M t j).1)) (0, 0) Q := by
  intro n
  induction n with
  | zero =>
    intro j hn
    have hn : j = (g - 1) := hn
    refine wp_iload_3 dX0_michaelmasChanges_4 ?_
    refine wp_rload_0 dX0_michaelmasChanges_5 ?_
    refine wp_getR (t := 1) fX0_24 dX0_michaelmasChanges_6 kd_101 rfl (rf_101_0) ?_
    refine wp_callV_0 kX0_61 dX0_michaelmasChanges_9 kd_1 rfl (c_X4_walls (g := g) (by rw [mcs_fr M t (by decide) (by decide)]; exact hg) h6 ?_) ⟨Nat.le_of_ble_eq_true rfl, Nat.le_of_ble_eq_true rfl, Nat.le_of_ble_eq_true rfl⟩ (Nat.le_of_ble_eq_true rfl)
    refine wp_icmp_ge (tgt := 85) dX0_michaelmasChanges_12 rfl (fun c12 => ?_) (fun c12 => absurd (nI_le (by omega) (by omega)) c12)
    subst hn
    exact hx
  | succ n ih =>
    intro j hn
    refine wp_iload_3 dX0_michaelmasChanges_4 ?_
    refine wp_rload_0 dX0_michaelmasChanges_5 ?_
    refine wp_getR (t := 1) fX0_24 dX0_michaelmasChanges_6 kd_101 rfl (rf_101_0) ?_
    refine wp_callV_0 kX0_61 dX0_michaelmasChanges_9 kd_1 rfl (c_X4_walls (g := g) (by rw [mcs_fr M t (by decide) (by decide)]; exact hg) h6 ?_) ⟨Nat.le_of_ble_eq_true rfl, Nat.le_of_ble_eq_true rfl, Nat.le_of_ble_eq_true rfl⟩ (Nat.le_of_ble_eq_true rfl)
    refine wp_icmp_ge (tgt := 85) dX0_michaelmasChanges_12 rfl (fun c12 => absurd c12 (nI_ge (by omega) (by omega))) (fun c12 => ?_)
    refine wp_rload_0 dX0_michaelmasChanges_15 ?_
    refine wp_getR (t := 103) fX0_15 dX0_michaelmasChanges_16 kd_101 rfl (rf_101_2) ?_
    refine wp_iload_3 dX0_michaelmasChanges_19 ?_
    refine wp_rload_0 dX0_michaelmasChanges_20 ?_
    refine wp_iload_3 dX0_michaelmasChanges_21 ?_
    refine wp_rload_0 dX0_michaelmasChanges_22 ?_
    refine wp_getR (t := 103) fX0_15 dX0_michaelmasChanges_23 kd_101 rfl (rf_101_2) ?_
    refine wp_iload_3 dX0_michaelmasChanges_26 ?_
    refine wp_ald (j := j) dX0_michaelmasChanges_27 ar_103 (rfl) (by omega) ?_
    refine wp_rload_0 dX0_michaelmasChanges_28 ?_
    refine wp_getR (t := 102) fX0_9 dX0_michaelmasChanges_29 kd_101 rfl (rf_101_1) ?_
    refine wp_iload_3 dX0_michaelmasChanges_32 ?_
    refine wp_ald (j := j) dX0_michaelmasChanges_33 ar_102 (rfl) (by omega) ?_
    refine wp_iload_1 dX0_michaelmasChanges_34 ?_
    refine wp_callV_4 kX0_50 dX0_michaelmasChanges_35 kd_101 rfl (c_X0_grown (by omega) ?_) ⟨Nat.le_of_ble_eq_true rfl, Nat.le_of_ble_eq_true rfl, Nat.le_of_ble_eq_true rfl⟩ (Nat.le_of_ble_eq_true rfl)
    refine wp_ast (j := j) dX0_michaelmasChanges_38 ar_103 (rfl) (by omega) ?_
    refine wp_rload_0 dX0_michaelmasChanges_39 ?_
    refine wp_getR (t := 103) fX0_15 dX0_michaelmasChanges_40 kd_101 rfl (rf_101_2) ?_
    refine wp_iload_3 dX0_michaelmasChanges_43 ?_
    refine wp_ald (j := j) dX0_michaelmasChanges_44 ar_103 (rfl) (by omega) ?_
    refine wp_callSN_1 kX0_54 dX0_michaelmasChanges_45 (c_X6_coursesFor ?_) ⟨Nat.le_of_ble_eq_true rfl, Nat.le_of_ble_eq_true rfl, Nat.le_of_ble_eq_true rfl⟩ (Nat.le_of_ble_eq_true rfl)
    refine wp_istore_4 dX0_michaelmasChanges_48 (Nat.le_of_ble_eq_true rfl) rfl ?_
    refine wp_iload_2 dX0_michaelmasChanges_50 ?_
    refine wp_if_ne (tgt := 65) dX0_michaelmasChanges_51 rfl (fun c51 => ?_) (fun c51 => ?_)
    · refine wp_iconst (v := 1) dX0_michaelmasChanges_65 rfl ?_
      refine wp_goto (tgt := 70) dX0_michaelmasChanges_66 rfl ?_
      refine wp_istore_2 dX0_michaelmasChanges_70 (Nat.le_of_ble_eq_true rfl) rfl ?_
      refine wp_rload_0 dX0_michaelmasChanges_71 ?_
      refine wp_getR (t := 102) fX0_9 dX0_michaelmasChanges_72 kd_101 rfl (rf_101_1) ?_
      refine wp_iload_3 dX0_michaelmasChanges_75 ?_
      refine wp_iload_4 dX0_michaelmasChanges_76 ?_
      refine wp_ast (j := j) dX0_michaelmasChanges_78 ar_102 (rfl) (by omega) ?_
      refine wp_iinc_3 (v := nI (j + 1)) dX0_michaelmasChanges_79 (nI_inc _) (Nat.le_of_ble_eq_true rfl) rfl ?_
      refine wp_goto (tgt := 4) dX0_michaelmasChanges_82 rfl ?_
      have h := ih (j + 1) (by omega)
      refine wp_drop_4 ?_
      first
        | (rw [show (mcs M t (j + 1)).2 = 1 from if_neg c51] at h; exact h)
        | (rw [show (mcs M t (j + 1)).2 = 0 from (if_pos c51).trans (if_pos c62)] at h; exact h)
        | (rw [show (mcs M t (j + 1)).2 = 1 from (if_pos c51).trans (if_neg c62)] at h; exact h)
    · refine wp_iload_4 dX0_michaelmasChanges_54 ?_
      refine wp_rload_0 dX0_michaelmasChanges_56 ?_
      refine wp_getR (t := 102) fX0_9 dX0_michaelmasChanges_57 kd_101 rfl (rf_101_1) ?_
      refine wp_iload_3 dX0_michaelmasChanges_60 ?_
      refine wp_ald (j := j) dX0_michaelmasChanges_61 ar_102 (rfl) (by omega) ?_
      refine wp_icmp_eq (tgt := 69) dX0_michaelmasChanges_62 rfl (fun c62 => ?_) (fun c62 => ?_)
      · refine wp_iconst (v := 0) dX0_michaelmasChanges_69 rfl ?_
        refine wp_istore_2 dX0_michaelmasChanges_70 (Nat.le_of_ble_eq_true rfl) rfl ?_
        refine wp_rload_0 dX0_michaelmasChanges_71 ?_
        refine wp_getR (t := 102) fX0_9 dX0_michaelmasChanges_72 kd_101 rfl (rf_101_1) ?_
        refine wp_iload_3 dX0_michaelmasChanges_75 ?_
        refine wp_iload_4 dX0_michaelmasChanges_76 ?_
        refine wp_ast (j := j) dX0_michaelmasChanges_78 ar_102 (rfl) (by omega) ?_
        refine wp_iinc_3 (v := nI (j + 1)) dX0_michaelmasChanges_79 (nI_inc _) (Nat.le_of_ble_eq_true rfl) rfl ?_
        refine wp_goto (tgt := 4) dX0_michaelmasChanges_82 rfl ?_
        have h := ih (j + 1) (by omega)
        refine wp_drop_4 ?_
        first
          | (rw [show (mcs M t (j + 1)).2 = 1 from if_neg c51] at h; exact h)
          | (rw [show (mcs M t (j + 1)).2 = 0 from (if_pos c51).trans (if_pos c62)] at h; exact h)
          | (rw [show (mcs M t (j + 1)).2 = 1 from (if_pos c51).trans (if_neg c62)] at h; exact h)
      · refine wp_iconst (v := 1) dX0_michaelmasChanges_65 rfl ?_
        refine wp_goto (tgt := 70) dX0_michaelmasChanges_66 rfl ?_
        refine wp_istore_2 dX0_michaelmasChanges_70 (Nat.le_of_ble_eq_true rfl) rfl ?_
        refine wp_rload_0 dX0_michaelmasChanges_71 ?_
        refine wp_getR (t := 102) fX0_9 dX0_michaelmasChanges_72 kd_101 rfl (rf_101_1) ?_
        refine wp_iload_3 dX0_michaelmasChanges_75 ?_
        refine wp_iload_4 dX0_michaelmasChanges_76 ?_
        refine wp_ast (j := j) dX0_michaelmasChanges_78 ar_102 (rfl) (by omega) ?_
        refine wp_iinc_3 (v := nI (j + 1)) dX0_michaelmasChanges_79 (nI_inc _) (Nat.le_of_ble_eq_true rfl) rfl ?_
        refine wp_goto (tgt := 4) dX0_michaelmasChanges_82 rfl ?_
        have h := ih (j + 1) (by omega)
        refine wp_drop_4 ?_
        first
          | (rw [show (mcs M t (j + 1)).2 = 1 from if_neg c51] at h; exact h)
          | (rw [show (mcs M t (j + 1)).2 = 0 from (if_pos c51).trans (if_pos c62)] at h; exact h)
          | (rw [show (mcs M t (j + 1)).2 = 1 from (if_pos c51).trans (if_neg c62)] at h; exact h)
set_option maxRecDepth 100000 in
set_option maxHeartbeats 4000000 in
theorem c_X0_michaelmasChanges {κ : KX} {M : MM} {Q : Option Value → va_W → Prop} {g : Nat} {t : Int32} (hg : M.1 1 2 = nI g) (h6 : g ≤ 6) (hQ : Q (some (.int (mcs M t (g - 1)).2)) (wM κ ((mcs M t (g - 1)).1))) : CT κ (3, 0, 0) mX0_michaelmasChanges [rv κ 101, .int t] (wM κ M) Q := by
  refine CT.of okX0_michaelmasChanges [some (rv κ 101), some (.int t), none, none, none] (Nat.le_of_ble_eq_true rfl) rfl ?_
  refine wp_iconst (v := 0) dX0_michaelmasChanges_0 rfl ?_
  refine wp_istore_2 dX0_michaelmasChanges_1 (Nat.le_of_ble_eq_true rfl) rfl ?_
  refine wp_iconst (v := 0) dX0_michaelmasChanges_2 rfl ?_
  refine wp_istore_3 dX0_michaelmasChanges_3 (Nat.le_of_ble_eq_true rfl) rfl ?_
  refine l_X0_michaelmasChanges hg h6 ?_ (g - 1) 0 (by omega)
  refine wp_iload_2 dX0_michaelmasChanges_85 ?_
  refine wp_zret dX0_michaelmasChanges_86 rfl (nar01 (mcs_01 M t (g - 1))) rfl ?_
  exact hQ
def cmh (g : Nat) : Nat → MM → Int32 → Nat → MM × Int32
  | 0, M, _, _ => (M, -4)
  | n + 1, M, t, j => if (mcs M t (g - 1)).2 = 0 then ((mcs M t (g - 1)).1, nI j) else cmh g n (mcs M t (g - 1)).1 (M.1 1 3) (j + 1)
set_option maxRecDepth 100000 in
set_option maxHeartbeats 4000000 in
theorem l_X0_changing {κ : KX} {Q : Option Value → va_W → Prop} {g : Nat} (h6 : g ≤ 6) : ∀ n j t (M : MM), M.1 1 2 = nI g → j + n = 21 → Q (some (.int (cmh g n M t j).2)) (wM κ (cmh g n M t j).1) → WP κ (4, 0, 0) mX0_changingMichaelmases 50 [some (rv κ 101), some (.int t), some (.int (nI j))] [] (wM κ M) (0, 0) Q := by
  intro n
  induction n with
  | zero =>
    intro j t M hg hn hQ
    refine wp_iload_2 dX0_changingMichaelmases_50 ?_
    refine wp_bipush (v := 20) dX0_changingMichaelmases_51 rfl ?_
    refine wp_icmp_gt (tgt := 80) dX0_changingMichaelmases_53 rfl (fun c53 => ?_) (fun c53 => absurd (nI_lt (a := 20) (by omega) (by omega)) c53)
    refine wp_bipush (v := (-4)) dX0_changingMichaelmases_80 rfl ?_
    refine wp_iret dX0_changingMichaelmases_82 rfl rfl ?_
    exact hQ
  | succ n ih =>
    intro j t M hg hn hQ
    refine wp_iload_2 dX0_changingMichaelmases_50 ?_
    refine wp_bipush (v := 20) dX0_changingMichaelmases_51 rfl ?_
    refine wp_icmp_gt (tgt := 80) dX0_changingMichaelmases_53 rfl (fun c53 => absurd c53 (nI_nlt (a := 20) (by omega) (by omega))) (fun c53 => ?_)
    refine wp_rload_0 dX0_changingMichaelmases_56 ?_
    refine wp_iload_1 dX0_changingMichaelmases_57 ?_
    refine wp_callV_1 kX0_74 dX0_changingMichaelmases_58 kd_101 rfl (c_X0_michaelmasChanges hg h6 ?_) ⟨Nat.le_of_ble_eq_true rfl, Nat.le_of_ble_eq_true rfl, Nat.le_of_ble_eq_true rfl⟩ (Nat.le_of_ble_eq_true rfl)
    refine wp_if_ne (tgt := 66) dX0_changingMichaelmases_61 rfl (fun c61 => ?_) (fun c61 => ?_)
    · refine wp_rload_0 dX0_changingMichaelmases_66 ?_
      refine wp_getR (t := 1) fX0_24 dX0_changingMichaelmases_67 kd_101 rfl (rf_101_0) ?_
      refine wp_getI fX0_57 dX0_changingMichaelmases_70 kd_1 rfl ?_
      refine wp_istore_1 dX0_changingMichaelmases_73 (Nat.le_of_ble_eq_true rfl) rfl ?_
      refine wp_iinc_2 (v := nI (j + 1)) dX0_changingMichaelmases_74 (nI_inc _) (Nat.le_of_ble_eq_true rfl) rfl ?_
      refine wp_goto (tgt := 50) dX0_changingMichaelmases_77 rfl ?_
      refine ih (j + 1) _ _ (by rw [mcs_fr M t (by decide) (by decide)]; exact hg) (by omega) ?_
      have e : cmh g (n + 1) M t j = cmh g n (mcs M t (g - 1)).1 (M.1 1 3) (j + 1) := if_neg c61
      rw [e] at hQ
      rw [mcs_fr M t (by decide) (by decide)]
      exact hQ
    · refine wp_iload_2 dX0_changingMichaelmases_64 ?_
      refine wp_iret dX0_changingMichaelmases_65 rfl rfl ?_
      have e : cmh g (n + 1) M t j = ((mcs M t (g - 1)).1, nI j) := if_pos c61
      rw [e] at hQ
      exact hQ
def cm0 (M : MM) : MM :=
  let M1 := rI M 102 (va_cpy (M.1 5) (M.1 102) 0 0 5)
  rI M1 103 (va_cpy (M1.1 6) (M1.1 103) 0 0 5)
set_option maxRecDepth 100000 in
set_option maxHeartbeats 4000000 in
theorem c_X0_changingMichaelmases {κ : KX} {M : MM} {Q : Option Value → va_W → Prop} {g : Nat} (hg : M.1 1 2 = nI g) (h6 : g ≤ 6) (hy : 0 < M.1 1 3) (hQ : Q (some (.int (cmh g 21 (cm0 M) (wtm M) 0).2)) (wM κ ((cmh g 21 (cm0 M) (wtm M) 0).1))) : CT κ (4, 0, 0) mX0_changingMichaelmases [rv κ 101] (wM κ M) Q := by
  refine CT.of okX0_changingMichaelmases [some (rv κ 101), none, none] (Nat.le_of_ble_eq_true rfl) rfl ?_
  refine wp_rload_0 dX0_changingMichaelmases_0 ?_
  refine wp_getR (t := 1) fX0_24 dX0_changingMichaelmases_1 kd_101 rfl (rf_101_0) ?_
  refine wp_getR (t := 4) fX0_38 dX0_changingMichaelmases_4 kd_1 rfl (rf_1_5) ?_
  refine wp_getR (t := 5) fX0_45 dX0_changingMichaelmases_7 kd_4 rfl (rf_4_0) ?_
  refine wp_iconst (v := 0) dX0_changingMichaelmases_10 rfl ?_
  refine wp_rload_0 dX0_changingMichaelmases_11 ?_
  refine wp_getR (t := 102) fX0_9 dX0_changingMichaelmases_12 kd_101 rfl (rf_101_1) ?_
  refine wp_iconst (v := 0) dX0_changingMichaelmases_15 rfl ?_
  refine wp_iconst (v := 5) dX0_changingMichaelmases_16 rfl ?_
  refine wp_copyi (a := 0) (b := 0) (z := 5) kX0_68 dX0_changingMichaelmases_17 ar_5.1 ar_102.1 (rfl) (rfl) (rfl) (by rw [ar_5.2]; omega) (by rw [ar_102.2]; omega) (Nat.le_of_ble_eq_true rfl) (Nat.le_of_ble_eq_true rfl) ?_
  refine wp_rload_0 dX0_changingMichaelmases_20 ?_
  refine wp_getR (t := 1) fX0_24 dX0_changingMichaelmases_21 kd_101 rfl (rf_101_0) ?_
  refine wp_getR (t := 4) fX0_38 dX0_changingMichaelmases_24 kd_1 rfl (rf_1_5) ?_
  refine wp_getR (t := 6) fX0_42 dX0_changingMichaelmases_27 kd_4 rfl (rf_4_1) ?_
  refine wp_iconst (v := 0) dX0_changingMichaelmases_30 rfl ?_
  refine wp_rload_0 dX0_changingMichaelmases_31 ?_
  refine wp_getR (t := 103) fX0_15 dX0_changingMichaelmases_32 kd_101 rfl (rf_101_2) ?_
  refine wp_iconst (v := 0) dX0_changingMichaelmases_35 rfl ?_
  refine wp_iconst (v := 5) dX0_changingMichaelmases_36 rfl ?_
  refine wp_copyi (a := 0) (b := 0) (z := 5) kX0_68 dX0_changingMichaelmases_37 ar_6.1 ar_103.1 (rfl) (rfl) (rfl) (by rw [ar_6.2]; omega) (by rw [ar_103.2]; omega) (Nat.le_of_ble_eq_true rfl) (Nat.le_of_ble_eq_true rfl) ?_
  refine wp_rload_0 dX0_changingMichaelmases_40 ?_
  refine wp_getR (t := 1) fX0_24 dX0_changingMichaelmases_41 kd_101 rfl (rf_101_0) ?_
  refine wp_callV_0 kX0_46 dX0_changingMichaelmases_44 kd_1 rfl (c_X4_weeksToMichaelmas (M := cm0 M) hy ?_) ⟨Nat.le_of_ble_eq_true rfl, Nat.le_of_ble_eq_true rfl, Nat.le_of_ble_eq_true rfl⟩ (Nat.le_of_ble_eq_true rfl)
  refine wp_istore_1 dX0_changingMichaelmases_47 (Nat.le_of_ble_eq_true rfl) rfl ?_
  refine wp_iconst (v := 0) dX0_changingMichaelmases_48 rfl ?_
  refine wp_istore_2 dX0_changingMichaelmases_49 (Nat.le_of_ble_eq_true rfl) rfl ?_
  exact l_X0_changing h6 21 0 _ (cm0 M) hg (by omega) hQ
def cnx (M : MM) (w : Nat) (q : Int32) : Int32 := grw M w q (M.1 5 w) (wtm M) / 5
set_option maxRecDepth 100000 in
set_option maxHeartbeats 4000000 in
theorem c_X0_coursesNext {κ : KX} {M : MM} {Q : Option Value → va_W → Prop} {w : Nat} {q : Int32} (hw : w < 5) (hy : 0 < M.1 1 3) (hQ : Q (some (.int (cnx M w q))) (wM κ (M))) : CT κ (3, 0, 0) mX0_coursesNext [rv κ 101, .int (nI w), .int q] (wM κ M) Q := by
  refine CT.of okX0_coursesNext [some (rv κ 101), some (.int (nI w)), some (.int q)] (Nat.le_of_ble_eq_true rfl) rfl ?_
  refine wp_rload_0 dX0_coursesNext_0 ?_
  refine wp_iload_1 dX0_coursesNext_1 ?_
  refine wp_iload_2 dX0_coursesNext_2 ?_
  refine wp_rload_0 dX0_coursesNext_3 ?_
  refine wp_getR (t := 1) fX0_24 dX0_coursesNext_4 kd_101 rfl (rf_101_0) ?_
  refine wp_getR (t := 4) fX0_38 dX0_coursesNext_7 kd_1 rfl (rf_1_5) ?_
  refine wp_getR (t := 5) fX0_45 dX0_coursesNext_10 kd_4 rfl (rf_4_0) ?_
  refine wp_iload_1 dX0_coursesNext_13 ?_
  refine wp_ald (j := w) dX0_coursesNext_14 ar_5 (rfl) (by omega) ?_
  refine wp_rload_0 dX0_coursesNext_15 ?_
  refine wp_getR (t := 1) fX0_24 dX0_coursesNext_16 kd_101 rfl (rf_101_0) ?_
  refine wp_callV_0 kX0_46 dX0_coursesNext_19 kd_1 rfl (c_X4_weeksToMichaelmas hy ?_) ⟨Nat.le_of_ble_eq_true rfl, Nat.le_of_ble_eq_true rfl, Nat.le_of_ble_eq_true rfl⟩ (Nat.le_of_ble_eq_true rfl)
  refine wp_callV_4 kX0_50 dX0_coursesNext_22 kd_101 rfl (c_X0_grown hw ?_) ⟨Nat.le_of_ble_eq_true rfl, Nat.le_of_ble_eq_true rfl, Nat.le_of_ble_eq_true rfl⟩ (Nat.le_of_ble_eq_true rfl)
  refine wp_callSN_1 kX0_54 dX0_coursesNext_25 (c_X6_coursesFor ?_) ⟨Nat.le_of_ble_eq_true rfl, Nat.le_of_ble_eq_true rfl, Nat.le_of_ble_eq_true rfl⟩ (Nat.le_of_ble_eq_true rfl)
  refine wp_iret dX0_coursesNext_28 rfl rfl ?_
  exact hQ
def gft (M : MM) (w : Nat) (h : Int32) : Nat → Nat → Int32
  | 0, _ => -4
  | n + 1, j => if h < cnx M w (asQ (M.1 6 w - nI j)) then gft M w h n (j + 1) else nI j * nI j
set_option maxRecDepth 100000 in
set_option maxHeartbeats 4000000 in
theorem l_X0_giftFor {κ : KX} {M : MM} {Q : Option Value → va_W → Prop} {w : Nat} {h : Int32} (hw : w < 5) (hy : 0 < M.1 1 3) : ∀ n j, j + n = 21 → Q (some (.int (gft M w h n j))) (wM κ M) → WP κ (4, 0, 0) mX0_giftFor 2 [some (rv κ 101), some (.int (nI w)), some (.int h), some (.int (nI j))] [] (wM κ M) (0, 0) Q := by
  intro n
  induction n with
  | zero =>
    intro j hn hQ
    refine wp_iload_3 dX0_giftFor_2 ?_
    refine wp_bipush (v := 20) dX0_giftFor_3 rfl ?_
    refine wp_icmp_gt (tgt := 44) dX0_giftFor_5 rfl (fun c5 => ?_) (fun c5 => absurd (nI_lt (a := 20) (by omega) (by omega)) c5)
    refine wp_bipush (v := (-4)) dX0_giftFor_44 rfl ?_
    refine wp_iret dX0_giftFor_46 rfl rfl ?_
    exact hQ
  | succ n ih =>
    intro j hn hQ
    refine wp_iload_3 dX0_giftFor_2 ?_
    refine wp_bipush (v := 20) dX0_giftFor_3 rfl ?_
    refine wp_icmp_gt (tgt := 44) dX0_giftFor_5 rfl (fun c5 => absurd c5 (nI_nlt (a := 20) (by omega) (by omega))) (fun c5 => ?_)
    refine wp_rload_0 dX0_giftFor_8 ?_
    refine wp_iload_1 dX0_giftFor_9 ?_
    refine wp_rload_0 dX0_giftFor_10 ?_
    refine wp_getR (t := 1) fX0_24 dX0_giftFor_11 kd_101 rfl (rf_101_0) ?_
    refine wp_getR (t := 4) fX0_38 dX0_giftFor_14 kd_1 rfl (rf_1_5) ?_
    refine wp_getR (t := 6) fX0_42 dX0_giftFor_17 kd_4 rfl (rf_4_1) ?_
    refine wp_iload_1 dX0_giftFor_20 ?_
    refine wp_ald (j := w) dX0_giftFor_21 ar_6 (rfl) (by omega) ?_
    refine wp_iload_3 dX0_giftFor_22 ?_
    refine wp_isub dX0_giftFor_23 ?_
    refine wp_callSN_1 kX0_34 dX0_giftFor_24 (c_X6_asQuarrel ?_) ⟨Nat.le_of_ble_eq_true rfl, Nat.le_of_ble_eq_true rfl, Nat.le_of_ble_eq_true rfl⟩ (Nat.le_of_ble_eq_true rfl)
    refine wp_callV_2 kX0_78 dX0_giftFor_27 kd_101 rfl (c_X0_coursesNext hw hy ?_) ⟨Nat.le_of_ble_eq_true rfl, Nat.le_of_ble_eq_true rfl, Nat.le_of_ble_eq_true rfl⟩ (Nat.le_of_ble_eq_true rfl)
    refine wp_iload_2 dX0_giftFor_30 ?_
    refine wp_icmp_gt (tgt := 38) dX0_giftFor_31 rfl (fun c31 => ?_) (fun c31 => ?_)
    · refine wp_iinc_3 (v := nI (j + 1)) dX0_giftFor_38 (nI_inc _) (Nat.le_of_ble_eq_true rfl) rfl ?_
      refine wp_goto (tgt := 2) dX0_giftFor_41 rfl ?_
      exact ih (j + 1) (by omega) (Qe hQ (by rw [gft, if_pos c31]) rfl)
    · refine wp_iload_3 dX0_giftFor_34 ?_
      refine wp_iload_3 dX0_giftFor_35 ?_
      refine wp_imul dX0_giftFor_36 ?_
      refine wp_iret dX0_giftFor_37 rfl rfl ?_
      exact Qe hQ (by rw [gft, if_neg c31]) rfl
set_option maxRecDepth 100000 in
set_option maxHeartbeats 4000000 in
theorem c_X0_giftFor {κ : KX} {M : MM} {Q : Option Value → va_W → Prop} {w : Nat} {h : Int32} (hw : w < 5) (hy : 0 < M.1 1 3) (hQ : Q (some (.int (gft M w h 21 0))) (wM κ (M))) : CT κ (4, 0, 0) mX0_giftFor [rv κ 101, .int (nI w), .int h] (wM κ M) Q := by
  refine CT.of okX0_giftFor [some (rv κ 101), some (.int (nI w)), some (.int h), none] (Nat.le_of_ble_eq_true rfl) rfl ?_
  refine wp_iconst (v := 0) dX0_giftFor_0 rfl ?_
  refine wp_istore_3 dX0_giftFor_1 (Nat.le_of_ble_eq_true rfl) rfl ?_
  exact l_X0_giftFor hw hy 21 0 (by omega) hQ
def wA (M : MM) : Nat → MM
  | 0 => M
  | j + 1 => sI (sI (wA M j) 104 j (cnx (wA M j) j ((wA M j).1 6 j))) 105 j (cnx (sI (wA M j) 104 j (cnx (wA M j) j ((wA M j).1 6 j))) j ((wA M j).1 6 j - (wA M j).1 6 j / 3))
theorem wA_fr (M : MM) {k : Nat} (h4 : k ≠ 104) (h5 : k ≠ 105) : ∀ j, (wA M j).1 k = M.1 k
  | 0 => rfl
  | j + 1 => by
    have ih := wA_fr M h4 h5 j
    rw [wA]
    simp only [sI, h4, h5, if_false]
    exact ih
def wG (x : Int32) (M : MM) : Nat → MM
  | 0 => M
  | j + 1 => sI (sI (wG x M j) 104 j (cnx (wG x M j) j ((wG x M j).1 6 j))) 105 j (cnx (sI (wG x M j) 104 j (cnx (wG x M j) j ((wG x M j).1 6 j))) j (asQ ((wG x M j).1 6 j + x)))
theorem wG_fr (x : Int32) (M : MM) {k : Nat} (h4 : k ≠ 104) (h5 : k ≠ 105) : ∀ j, (wG x M j).1 k = M.1 k
  | 0 => rfl
  | j + 1 => by
    have ih := wG_fr x M h4 h5 j
    rw [wG]
    simp only [sI, h4, h5, if_false]
    exact ih
set_option maxRecDepth 100000 in
set_option maxHeartbeats 4000000 in
theorem l_X0_weighApologies {κ : KX} {M : MM} {Q : Option Value → va_W → Prop} {g : Nat} (hg : M.1 1 2 = nI g) (h6 : g ≤ 6) (hy : 0 < M.1 1 3) (hx : WP κ (4, 0, 0) mX0_weighApologies 59 [some (rv κ 101), some (.int (nI ((g - 1)))), none] [] (wM κ (wA M ((g - 1)))) (0, 0) Q) : ∀ n j, j + n = (g - 1) → WP κ (4, 0, 0) mX0_weighApologies 2 [some (rv κ 101), some (.int (nI j)), none] [] (wM κ (wA M j)) (0, 0) Q := by
  intro n
  induction n with
  | zero =>
    intro j hn
    have hn : j = (g - 1) := hn
    refine wp_iload_1 dX0_weighApologies_2 ?_
    refine wp_rload_0 dX0_weighApologies_3 ?_
    refine wp_getR (t := 1) fX0_24 dX0_weighApologies_4 kd_101 rfl (rf_101_0) ?_
    refine wp_callV_0 kX0_61 dX0_weighApologies_7 kd_1 rfl (c_X4_walls (g := g) (by rw [wA_fr M (by decide) (by decide)]; exact hg) h6 ?_) ⟨Nat.le_of_ble_eq_true rfl, Nat.le_of_ble_eq_true rfl, Nat.le_of_ble_eq_true rfl⟩ (Nat.le_of_ble_eq_true rfl)
    refine wp_icmp_ge (tgt := 59) dX0_weighApologies_10 rfl (fun c10 => ?_) (fun c10 => absurd (nI_le (by omega) (by omega)) c10)
    subst hn
    exact hx
  | succ n ih =>
    intro j hn
    refine wp_iload_1 dX0_weighApologies_2 ?_
    refine wp_rload_0 dX0_weighApologies_3 ?_
    refine wp_getR (t := 1) fX0_24 dX0_weighApologies_4 kd_101 rfl (rf_101_0) ?_
    refine wp_callV_0 kX0_61 dX0_weighApologies_7 kd_1 rfl (c_X4_walls (g := g) (by rw [wA_fr M (by decide) (by decide)]; exact hg) h6 ?_) ⟨Nat.le_of_ble_eq_true rfl, Nat.le_of_ble_eq_true rfl, Nat.le_of_ble_eq_true rfl⟩ (Nat.le_of_ble_eq_true rfl)
    refine wp_icmp_ge (tgt := 59) dX0_weighApologies_10 rfl (fun c10 => absurd c10 (nI_ge (by omega) (by omega))) (fun c10 => ?_)
    refine wp_rload_0 dX0_weighApologies_13 ?_
    refine wp_getR (t := 1) fX0_24 dX0_weighApologies_14 kd_101 rfl (rf_101_0) ?_
    refine wp_getR (t := 4) fX0_38 dX0_weighApologies_17 kd_1 rfl (rf_1_5) ?_
    refine wp_getR (t := 6) fX0_42 dX0_weighApologies_20 kd_4 rfl (rf_4_1) ?_
    refine wp_iload_1 dX0_weighApologies_23 ?_
    refine wp_ald (j := j) dX0_weighApologies_24 ar_6 (rfl) (by omega) ?_
    refine wp_istore_2 dX0_weighApologies_25 (Nat.le_of_ble_eq_true rfl) rfl ?_
    refine wp_rload_0 dX0_weighApologies_26 ?_
    refine wp_getR (t := 104) fX0_18 dX0_weighApologies_27 kd_101 rfl (rf_101_3) ?_
    refine wp_iload_1 dX0_weighApologies_30 ?_
    refine wp_rload_0 dX0_weighApologies_31 ?_
    refine wp_iload_1 dX0_weighApologies_32 ?_
    refine wp_iload_2 dX0_weighApologies_33 ?_
    refine wp_callV_2 kX0_78 dX0_weighApologies_34 kd_101 rfl (c_X0_coursesNext (by omega) (by rw [wA_fr M (by decide) (by decide)]; exact hy) ?_) ⟨Nat.le_of_ble_eq_true rfl, Nat.le_of_ble_eq_true rfl, Nat.le_of_ble_eq_true rfl⟩ (Nat.le_of_ble_eq_true rfl)
    refine wp_ast (j := j) dX0_weighApologies_37 ar_104 (rfl) (by omega) ?_
    refine wp_rload_0 dX0_weighApologies_38 ?_
    refine wp_getR (t := 105) fX0_21 dX0_weighApologies_39 kd_101 rfl (rf_101_4) ?_
    refine wp_iload_1 dX0_weighApologies_42 ?_
    refine wp_rload_0 dX0_weighApologies_43 ?_
    refine wp_iload_1 dX0_weighApologies_44 ?_
    refine wp_iload_2 dX0_weighApologies_45 ?_
    refine wp_callSN_1 kX0_81 dX0_weighApologies_46 (c_X6_lessAThird ?_) ⟨Nat.le_of_ble_eq_true rfl, Nat.le_of_ble_eq_true rfl, Nat.le_of_ble_eq_true rfl⟩ (Nat.le_of_ble_eq_true rfl)
    refine wp_callV_2 kX0_78 dX0_weighApologies_49 kd_101 rfl (c_X0_coursesNext (by omega) (show 0 < (wA M j).1 1 3 by rw [wA_fr M (by decide) (by decide)]; exact hy) ?_) ⟨Nat.le_of_ble_eq_true rfl, Nat.le_of_ble_eq_true rfl, Nat.le_of_ble_eq_true rfl⟩ (Nat.le_of_ble_eq_true rfl)
    refine wp_ast (j := j) dX0_weighApologies_52 ar_105 (rfl) (by omega) ?_
    refine wp_iinc_1 (v := nI (j + 1)) dX0_weighApologies_53 (nI_inc _) (Nat.le_of_ble_eq_true rfl) rfl ?_
    refine wp_goto (tgt := 2) dX0_weighApologies_56 rfl ?_
    exact wp_drop_2 (ih (j + 1) (by omega))
set_option maxRecDepth 100000 in
set_option maxHeartbeats 4000000 in
theorem c_X0_weighApologies {κ : KX} {M : MM} {Q : Option Value → va_W → Prop} {g : Nat} (hg : M.1 1 2 = nI g) (h6 : g ≤ 6) (hy : 0 < M.1 1 3) (hQ : Q (none) (wM κ (wA M (g - 1)))) : CT κ (4, 0, 0) mX0_weighApologies [rv κ 101] (wM κ M) Q := by
  refine CT.of okX0_weighApologies [some (rv κ 101), none, none] (Nat.le_of_ble_eq_true rfl) rfl ?_
  refine wp_iconst (v := 0) dX0_weighApologies_0 rfl ?_
  refine wp_istore_1 dX0_weighApologies_1 (Nat.le_of_ble_eq_true rfl) rfl ?_
  refine l_X0_weighApologies hg h6 hy ?_ (g - 1) 0 (by omega)
  refine wp_vret dX0_weighApologies_59 rfl rfl ?_
  exact hQ
set_option maxRecDepth 100000 in
set_option maxHeartbeats 4000000 in
theorem l_X0_weighGossip {κ : KX} {M : MM} {Q : Option Value → va_W → Prop} {x : Int32} {g : Nat} (hg : M.1 1 2 = nI g) (h6 : g ≤ 6) (hy : 0 < M.1 1 3) (hx : WP κ (4, 0, 0) mX0_weighGossip 61 [some (rv κ 101), some (.int x), some (.int (nI ((g - 1)))), none] [] (wM κ (wG x M ((g - 1)))) (0, 0) Q) : ∀ n j, j + n = (g - 1) → WP κ (4, 0, 0) mX0_weighGossip 2 [some (rv κ 101), some (.int x), some (.int (nI j)), none] [] (wM κ (wG x M j)) (0, 0) Q := by
  intro n
  induction n with
  | zero =>
    intro j hn
    have hn : j = (g - 1) := hn
    refine wp_iload_2 dX0_weighGossip_2 ?_
    refine wp_rload_0 dX0_weighGossip_3 ?_
    refine wp_getR (t := 1) fX0_24 dX0_weighGossip_4 kd_101 rfl (rf_101_0) ?_
    refine wp_callV_0 kX0_61 dX0_weighGossip_7 kd_1 rfl (c_X4_walls (g := g) (by rw [wG_fr x M (by decide) (by decide)]; exact hg) h6 ?_) ⟨Nat.le_of_ble_eq_true rfl, Nat.le_of_ble_eq_true rfl, Nat.le_of_ble_eq_true rfl⟩ (Nat.le_of_ble_eq_true rfl)
    refine wp_icmp_ge (tgt := 61) dX0_weighGossip_10 rfl (fun c10 => ?_) (fun c10 => absurd (nI_le (by omega) (by omega)) c10)
    subst hn
    exact hx
  | succ n ih =>
    intro j hn
    refine wp_iload_2 dX0_weighGossip_2 ?_
    refine wp_rload_0 dX0_weighGossip_3 ?_
    refine wp_getR (t := 1) fX0_24 dX0_weighGossip_4 kd_101 rfl (rf_101_0) ?_
    refine wp_callV_0 kX0_61 dX0_weighGossip_7 kd_1 rfl (c_X4_walls (g := g) (by rw [wG_fr x M (by decide) (by decide)]; exact hg) h6 ?_) ⟨Nat.le_of_ble_eq_true rfl, Nat.le_of_ble_eq_true rfl, Nat.le_of_ble_eq_true rfl⟩ (Nat.le_of_ble_eq_true rfl)
    refine wp_icmp_ge (tgt := 61) dX0_weighGossip_10 rfl (fun c10 => absurd c10 (nI_ge (by omega) (by omega))) (fun c10 => ?_)
    refine wp_rload_0 dX0_weighGossip_13 ?_
    refine wp_getR (t := 1) fX0_24 dX0_weighGossip_14 kd_101 rfl (rf_101_0) ?_
    refine wp_getR (t := 4) fX0_38 dX0_weighGossip_17 kd_1 rfl (rf_1_5) ?_
    refine wp_getR (t := 6) fX0_42 dX0_weighGossip_20 kd_4 rfl (rf_4_1) ?_
    refine wp_iload_2 dX0_weighGossip_23 ?_
    refine wp_ald (j := j) dX0_weighGossip_24 ar_6 (rfl) (by omega) ?_
    refine wp_istore_3 dX0_weighGossip_25 (Nat.le_of_ble_eq_true rfl) rfl ?_
    refine wp_rload_0 dX0_weighGossip_26 ?_
    refine wp_getR (t := 104) fX0_18 dX0_weighGossip_27 kd_101 rfl (rf_101_3) ?_
    refine wp_iload_2 dX0_weighGossip_30 ?_
    refine wp_rload_0 dX0_weighGossip_31 ?_
    refine wp_iload_2 dX0_weighGossip_32 ?_
    refine wp_iload_3 dX0_weighGossip_33 ?_
    refine wp_callV_2 kX0_78 dX0_weighGossip_34 kd_101 rfl (c_X0_coursesNext (by omega) (by rw [wG_fr x M (by decide) (by decide)]; exact hy) ?_) ⟨Nat.le_of_ble_eq_true rfl, Nat.le_of_ble_eq_true rfl, Nat.le_of_ble_eq_true rfl⟩ (Nat.le_of_ble_eq_true rfl)
    refine wp_ast (j := j) dX0_weighGossip_37 ar_104 (rfl) (by omega) ?_
    refine wp_rload_0 dX0_weighGossip_38 ?_
    refine wp_getR (t := 105) fX0_21 dX0_weighGossip_39 kd_101 rfl (rf_101_4) ?_
    refine wp_iload_2 dX0_weighGossip_42 ?_
    refine wp_rload_0 dX0_weighGossip_43 ?_
    refine wp_iload_2 dX0_weighGossip_44 ?_
    refine wp_iload_3 dX0_weighGossip_45 ?_
    refine wp_iload_1 dX0_weighGossip_46 ?_
    refine wp_iadd dX0_weighGossip_47 ?_
    refine wp_callSN_1 kX0_34 dX0_weighGossip_48 (c_X6_asQuarrel ?_) ⟨Nat.le_of_ble_eq_true rfl, Nat.le_of_ble_eq_true rfl, Nat.le_of_ble_eq_true rfl⟩ (Nat.le_of_ble_eq_true rfl)
    refine wp_callV_2 kX0_78 dX0_weighGossip_51 kd_101 rfl (c_X0_coursesNext (by omega) (show 0 < (wG x M j).1 1 3 by rw [wG_fr x M (by decide) (by decide)]; exact hy) ?_) ⟨Nat.le_of_ble_eq_true rfl, Nat.le_of_ble_eq_true rfl, Nat.le_of_ble_eq_true rfl⟩ (Nat.le_of_ble_eq_true rfl)
    refine wp_ast (j := j) dX0_weighGossip_54 ar_105 (rfl) (by omega) ?_
    refine wp_iinc_2 (v := nI (j + 1)) dX0_weighGossip_55 (nI_inc _) (Nat.le_of_ble_eq_true rfl) rfl ?_
    refine wp_goto (tgt := 2) dX0_weighGossip_58 rfl ?_
    exact wp_drop_3 (ih (j + 1) (by omega))
set_option maxRecDepth 100000 in
set_option maxHeartbeats 4000000 in
theorem c_X0_weighGossip {κ : KX} {M : MM} {Q : Option Value → va_W → Prop} {x : Int32} {g : Nat} (hg : M.1 1 2 = nI g) (h6 : g ≤ 6) (hy : 0 < M.1 1 3) (hQ : Q (none) (wM κ (wG x M (g - 1)))) : CT κ (4, 0, 0) mX0_weighGossip [rv κ 101, .int x] (wM κ M) Q := by
  refine CT.of okX0_weighGossip [some (rv κ 101), some (.int x), none, none] (Nat.le_of_ble_eq_true rfl) rfl ?_
  refine wp_iconst (v := 0) dX0_weighGossip_0 rfl ?_
  refine wp_istore_2 dX0_weighGossip_1 (Nat.le_of_ble_eq_true rfl) rfl ?_
  refine l_X0_weighGossip hg h6 hy ?_ (g - 1) 0 (by omega)
  refine wp_vret dX0_weighGossip_61 rfl rfl ?_
  exact hQ
def cw (M : MM) (s : Int32) : Nat → Int32
  | 0 => 0
  | j + 1 => cw M s j + (if (s >>> (nI j &&& 31)) &&& 1 = 1 then M.1 105 j else M.1 104 j)
set_option maxRecDepth 100000 in
set_option maxHeartbeats 4000000 in
theorem l_X0_coursesWith {κ : KX} {M : MM} {Q : Option Value → va_W → Prop} {s : Int32} {g : Nat} (hg : M.1 1 2 = nI g) (h6 : g ≤ 6) (hx : WP κ (1, 0, 0) mX0_coursesWith 48 [some (rv κ 101), some (.int s), some (.int (cw M s ((g - 1)))), some (.int (nI ((g - 1))))] [] (wM κ (M)) (0, 0) Q) : ∀ n j, j + n = (g - 1) → WP κ (1, 0, 0) mX0_coursesWith 4 [some (rv κ 101), some (.int s), some (.int (cw M s j)), some (.int (nI j))] [] (wM κ (M)) (0, 0) Q := by
  intro n
  induction n with
  | zero =>
    intro j hn
    have hn : j = (g - 1) := hn
    refine wp_iload_3 dX0_coursesWith_4 ?_
    refine wp_rload_0 dX0_coursesWith_5 ?_
    refine wp_getR (t := 1) fX0_24 dX0_coursesWith_6 kd_101 rfl (rf_101_0) ?_
    refine wp_callV_0 kX0_61 dX0_coursesWith_9 kd_1 rfl (c_X4_walls hg h6 ?_) ⟨Nat.le_of_ble_eq_true rfl, Nat.le_of_ble_eq_true rfl, Nat.le_of_ble_eq_true rfl⟩ (Nat.le_of_ble_eq_true rfl)
    refine wp_icmp_ge (tgt := 48) dX0_coursesWith_12 rfl (fun c12 => ?_) (fun c12 => absurd (nI_le (by omega) (by omega)) c12)
    subst hn
    exact hx
  | succ n ih =>
    intro j hn
    refine wp_iload_3 dX0_coursesWith_4 ?_
    refine wp_rload_0 dX0_coursesWith_5 ?_
    refine wp_getR (t := 1) fX0_24 dX0_coursesWith_6 kd_101 rfl (rf_101_0) ?_
    refine wp_callV_0 kX0_61 dX0_coursesWith_9 kd_1 rfl (c_X4_walls hg h6 ?_) ⟨Nat.le_of_ble_eq_true rfl, Nat.le_of_ble_eq_true rfl, Nat.le_of_ble_eq_true rfl⟩ (Nat.le_of_ble_eq_true rfl)
    refine wp_icmp_ge (tgt := 48) dX0_coursesWith_12 rfl (fun c12 => absurd c12 (nI_ge (by omega) (by omega))) (fun c12 => ?_)
    refine wp_iload_2 dX0_coursesWith_15 ?_
    refine wp_iload_1 dX0_coursesWith_16 ?_
    refine wp_iload_3 dX0_coursesWith_17 ?_
    refine wp_ishr dX0_coursesWith_18 ?_
    refine wp_iconst (v := 1) dX0_coursesWith_19 rfl ?_
    refine wp_iand dX0_coursesWith_20 ?_
    refine wp_iconst (v := 1) dX0_coursesWith_21 rfl ?_
    refine wp_icmp_ne (tgt := 34) dX0_coursesWith_22 rfl (fun c22 => ?_) (fun c22 => ?_)
    · refine wp_rload_0 dX0_coursesWith_34 ?_
      refine wp_getR (t := 104) fX0_18 dX0_coursesWith_35 kd_101 rfl (rf_101_3) ?_
      refine wp_iload_3 dX0_coursesWith_38 ?_
      refine wp_ald (j := j) dX0_coursesWith_39 ar_104 (rfl) (by omega) ?_
      refine wp_iadd dX0_coursesWith_40 ?_
      refine wp_istore_2 dX0_coursesWith_41 (Nat.le_of_ble_eq_true rfl) rfl ?_
      refine wp_iinc_3 (v := nI (j + 1)) dX0_coursesWith_42 (nI_inc _) (Nat.le_of_ble_eq_true rfl) rfl ?_
      refine wp_goto (tgt := 4) dX0_coursesWith_45 rfl ?_
      have h := ih (j + 1) (by omega)
      first
        | (rw [show cw M s (j + 1) = cw M s j + M.1 104 j from congrArg (fun z => cw M s j + z) (if_neg c22)] at h; exact h)
        | (rw [show cw M s (j + 1) = cw M s j + M.1 105 j from congrArg (fun z => cw M s j + z) (if_pos c22)] at h; exact h)
    · refine wp_rload_0 dX0_coursesWith_25 ?_
      refine wp_getR (t := 105) fX0_21 dX0_coursesWith_26 kd_101 rfl (rf_101_4) ?_
      refine wp_iload_3 dX0_coursesWith_29 ?_
      refine wp_ald (j := j) dX0_coursesWith_30 ar_105 (rfl) (by omega) ?_
      refine wp_goto (tgt := 40) dX0_coursesWith_31 rfl ?_
      refine wp_iadd dX0_coursesWith_40 ?_
      refine wp_istore_2 dX0_coursesWith_41 (Nat.le_of_ble_eq_true rfl) rfl ?_
      refine wp_iinc_3 (v := nI (j + 1)) dX0_coursesWith_42 (nI_inc _) (Nat.le_of_ble_eq_true rfl) rfl ?_
      refine wp_goto (tgt := 4) dX0_coursesWith_45 rfl ?_
      have h := ih (j + 1) (by omega)
      first
        | (rw [show cw M s (j + 1) = cw M s j + M.1 104 j from congrArg (fun z => cw M s j + z) (if_neg c22)] at h; exact h)
        | (rw [show cw M s (j + 1) = cw M s j + M.1 105 j from congrArg (fun z => cw M s j + z) (if_pos c22)] at h; exact h)
set_option maxRecDepth 100000 in
set_option maxHeartbeats 4000000 in
theorem c_X0_coursesWith {κ : KX} {M : MM} {Q : Option Value → va_W → Prop} {s : Int32} {g : Nat} (hg : M.1 1 2 = nI g) (h6 : g ≤ 6) (hQ : Q (some (.int (cw M s (g - 1)))) (wM κ (M))) : CT κ (1, 0, 0) mX0_coursesWith [rv κ 101, .int s] (wM κ M) Q := by
  refine CT.of okX0_coursesWith [some (rv κ 101), some (.int s), none, none] (Nat.le_of_ble_eq_true rfl) rfl ?_
  refine wp_iconst (v := 0) dX0_coursesWith_0 rfl ?_
  refine wp_istore_2 dX0_coursesWith_1 (Nat.le_of_ble_eq_true rfl) rfl ?_
  refine wp_iconst (v := 0) dX0_coursesWith_2 rfl ?_
  refine wp_istore_3 dX0_coursesWith_3 (Nat.le_of_ble_eq_true rfl) rfl ?_
  refine l_X0_coursesWith hg h6 ?_ (g - 1) 0 (by omega)
  refine wp_iload_2 dX0_coursesWith_48 ?_
  refine wp_iret dX0_coursesWith_49 rfl rfl ?_
  exact hQ
def us (x : Int32) (k : Int32) : Int32 := (x.toUInt32 >>> (k.toUInt32 &&& Int32.toUInt32 31)).toInt32
def bc0 (x : Int32) : Int32 := x - (us x 1 &&& 1431655765)
def bc1 (x : Int32) : Int32 := (x &&& 858993459) + (us x 2 &&& 858993459)
def bc2 (x : Int32) : Int32 := (x + us x 4) &&& 252645135
def bc3 (x : Int32) : Int32 := x + us x 8
def bc4 (x : Int32) : Int32 := x + us x 16
def bct (x : Int32) : Int32 := bc4 (bc3 (bc2 (bc1 (bc0 x)))) &&& 63
set_option maxRecDepth 100000 in
set_option maxHeartbeats 4000000 in
theorem c_J6_bitCount_0f7a4 {κ : KX} {M : MM} {Q : Option Value → va_W → Prop} {x : Int32}  (hQ : Q (some (.int (bct x))) (wM κ (M))) : CT κ (0, 0, 0) mJ6_bitCount_0f7a4 [.int x] (wM κ M) Q := by
  refine CT.of okJ6_bitCount_0f7a4 [some (.int x)] (Nat.le_of_ble_eq_true rfl) rfl ?_
  refine wp_iload_0 dJ6_bitCount_0f7a4_0 ?_
  refine wp_iload_0 dJ6_bitCount_0f7a4_1 ?_
  refine wp_iconst (v := 1) dJ6_bitCount_0f7a4_2 rfl ?_
  refine wp_iushr dJ6_bitCount_0f7a4_3 ?_
  refine wp_ldcw nJ6_265 dJ6_bitCount_0f7a4_4 ?_
  refine wp_iand dJ6_bitCount_0f7a4_7 ?_
  refine wp_isub dJ6_bitCount_0f7a4_8 ?_
  refine wp_istore_0 dJ6_bitCount_0f7a4_9 (Nat.le_of_ble_eq_true rfl) ?_
  refine wp_iload_0 dJ6_bitCount_0f7a4_10 ?_
  refine wp_ldcw nJ6_266 dJ6_bitCount_0f7a4_11 ?_
  refine wp_iand dJ6_bitCount_0f7a4_14 ?_
  refine wp_iload_0 dJ6_bitCount_0f7a4_15 ?_
  refine wp_iconst (v := 2) dJ6_bitCount_0f7a4_16 rfl ?_
  refine wp_iushr dJ6_bitCount_0f7a4_17 ?_
  refine wp_ldcw nJ6_266 dJ6_bitCount_0f7a4_18 ?_
  refine wp_iand dJ6_bitCount_0f7a4_21 ?_
  refine wp_iadd dJ6_bitCount_0f7a4_22 ?_
  refine wp_istore_0 dJ6_bitCount_0f7a4_23 (Nat.le_of_ble_eq_true rfl) ?_
  refine wp_iload_0 dJ6_bitCount_0f7a4_24 ?_
  refine wp_iload_0 dJ6_bitCount_0f7a4_25 ?_
  refine wp_iconst (v := 4) dJ6_bitCount_0f7a4_26 rfl ?_
  refine wp_iushr dJ6_bitCount_0f7a4_27 ?_
  refine wp_iadd dJ6_bitCount_0f7a4_28 ?_
  refine wp_ldcw nJ6_267 dJ6_bitCount_0f7a4_29 ?_
  refine wp_iand dJ6_bitCount_0f7a4_32 ?_
  refine wp_istore_0 dJ6_bitCount_0f7a4_33 (Nat.le_of_ble_eq_true rfl) ?_
  refine wp_iload_0 dJ6_bitCount_0f7a4_34 ?_
  refine wp_iload_0 dJ6_bitCount_0f7a4_35 ?_
  refine wp_bipush (v := 8) dJ6_bitCount_0f7a4_36 rfl ?_
  refine wp_iushr dJ6_bitCount_0f7a4_38 ?_
  refine wp_iadd dJ6_bitCount_0f7a4_39 ?_
  refine wp_istore_0 dJ6_bitCount_0f7a4_40 (Nat.le_of_ble_eq_true rfl) ?_
  refine wp_iload_0 dJ6_bitCount_0f7a4_41 ?_
  refine wp_iload_0 dJ6_bitCount_0f7a4_42 ?_
  refine wp_bipush (v := 16) dJ6_bitCount_0f7a4_43 rfl ?_
  refine wp_iushr dJ6_bitCount_0f7a4_45 ?_
  refine wp_iadd dJ6_bitCount_0f7a4_46 ?_
  refine wp_istore_0 dJ6_bitCount_0f7a4_47 (Nat.le_of_ble_eq_true rfl) ?_
  refine wp_iload_0 dJ6_bitCount_0f7a4_48 ?_
  refine wp_bipush (v := 63) dJ6_bitCount_0f7a4_49 rfl ?_
  refine wp_iand dJ6_bitCount_0f7a4_51 ?_
  refine wp_iret dJ6_bitCount_0f7a4_52 rfl rfl ?_
  exact hQ
def bA (M : MM) (g : Nat) (op m : Int32) : Nat → Int32 × Int32
  | 0 => (0, cw M 0 (g - 1))
  | j + 1 =>
    if ¬ (nI (j + 1) &&& (op ^^^ (-1))) = 0 then bA M g op m j
    else if ¬ bct (nI (j + 1)) ≤ m then bA M g op m j
    else if cw M (nI (j + 1)) (g - 1) < (bA M g op m j).2 then (nI (j + 1), cw M (nI (j + 1)) (g - 1))
    else if ¬ cw M (nI (j + 1)) (g - 1) = (bA M g op m j).2 then bA M g op m j
    else if bct (bA M g op m j).1 ≤ bct (nI (j + 1)) then bA M g op m j
    else (nI (j + 1), cw M (nI (j + 1)) (g - 1))
theorem shl_pow : ∀ w, w < 6 → (1 : Int32) <<< (nI w &&& 31) = nI (2 ^ w) ∧ 1 ≤ 2 ^ w ∧ 2 ^ w ≤ 32 := by decide +kernel
set_option maxRecDepth 100000 in
set_option maxHeartbeats 4000000 in
theorem l_X0_bestApologies {κ : KX} {M : MM} {Q : Option Value → va_W → Prop} {op m : Int32} {g : Nat} (hg : M.1 1 2 = nI g) (h6 : g ≤ 6) (hx : WP κ (3, 0, 0) mX0_bestApologies 102 [some (rv κ 101), some (.int m), some (.int op), some (.int (bA M g op m ((2 ^ (g - 1) - 1))).1), some (.int (bA M g op m ((2 ^ (g - 1) - 1))).2), some (.int (nI (((2 ^ (g - 1) - 1)) + 1))), none] [] (wM κ (M)) (0, 0) Q) : ∀ n j, j + n = (2 ^ (g - 1) - 1) → WP κ (3, 0, 0) mX0_bestApologies 20 [some (rv κ 101), some (.int m), some (.int op), some (.int (bA M g op m j).1), some (.int (bA M g op m j).2), some (.int (nI (j + 1))), none] [] (wM κ (M)) (0, 0) Q := by
  intro n
  induction n with
  | zero =>
    intro j hn
    have hn : j = (2 ^ (g - 1) - 1) := hn
    obtain ⟨hs1, hs2, hs3⟩ := shl_pow (g - 1) (by omega)
    refine wp_iload_5 dX0_bestApologies_20 ?_
    refine wp_iconst (v := 1) dX0_bestApologies_22 rfl ?_
    refine wp_rload_0 dX0_bestApologies_23 ?_
    refine wp_getR (t := 1) fX0_24 dX0_bestApologies_24 kd_101 rfl (rf_101_0) ?_
    refine wp_callV_0 kX0_61 dX0_bestApologies_27 kd_1 rfl (c_X4_walls hg h6 ?_) ⟨Nat.le_of_ble_eq_true rfl, Nat.le_of_ble_eq_true rfl, Nat.le_of_ble_eq_true rfl⟩ (Nat.le_of_ble_eq_true rfl)
    refine wp_ishl dX0_bestApologies_30 ?_
    rw [hs1]
    refine wp_icmp_ge (tgt := 102) dX0_bestApologies_31 rfl (fun c31 => ?_) (fun c31 => absurd (nI_le (by omega) (by omega)) c31)
    subst hn
    exact hx
  | succ n ih =>
    intro j hn
    obtain ⟨hs1, hs2, hs3⟩ := shl_pow (g - 1) (by omega)
    refine wp_iload_5 dX0_bestApologies_20 ?_
    refine wp_iconst (v := 1) dX0_bestApologies_22 rfl ?_
    refine wp_rload_0 dX0_bestApologies_23 ?_
    refine wp_getR (t := 1) fX0_24 dX0_bestApologies_24 kd_101 rfl (rf_101_0) ?_
    refine wp_callV_0 kX0_61 dX0_bestApologies_27 kd_1 rfl (c_X4_walls hg h6 ?_) ⟨Nat.le_of_ble_eq_true rfl, Nat.le_of_ble_eq_true rfl, Nat.le_of_ble_eq_true rfl⟩ (Nat.le_of_ble_eq_true rfl)
    refine wp_ishl dX0_bestApologies_30 ?_
    rw [hs1]
    refine wp_icmp_ge (tgt := 102) dX0_bestApologies_31 rfl (fun c31 => absurd c31 (nI_ge (by omega) (by omega))) (fun c31 => ?_)
    refine wp_iload_5 dX0_bestApologies_34 ?_
    refine wp_iload_2 dX0_bestApologies_36 ?_
    refine wp_iconst (v := (-1)) dX0_bestApologies_37 rfl ?_
    refine wp_ixor dX0_bestApologies_38 ?_
    refine wp_iand dX0_bestApologies_39 ?_
    refine wp_if_ne (tgt := 96) dX0_bestApologies_40 rfl (fun c40 => ?_) (fun c40 => ?_)
    · refine wp_iinc_5 (v := nI ((j + 1) + 1)) dX0_bestApologies_96 (nI_inc _) (Nat.le_of_ble_eq_true rfl) rfl ?_
      refine wp_goto (tgt := 20) dX0_bestApologies_99 rfl ?_
      have h := ih (j + 1) (by omega)
      refine wp_drop_6 ?_
      first
        | (rw [show bA M g op m (j + 1) = _ from if_pos c40] at h; exact h)
        | (rw [show bA M g op m (j + 1) = _ from (if_neg (fun z => z c40)).trans (if_pos c49)] at h; exact h)
        | (rw [show bA M g op m (j + 1) = _ from (if_neg (fun z => z c40)).trans ((if_neg (fun z => z c49)).trans (if_pos c67))] at h; exact h)
        | (rw [show bA M g op m (j + 1) = _ from (if_neg (fun z => z c40)).trans ((if_neg (fun z => z c49)).trans ((if_neg c67).trans (if_pos c74)))] at h; exact h)
        | (rw [show bA M g op m (j + 1) = _ from (if_neg (fun z => z c40)).trans ((if_neg (fun z => z c49)).trans ((if_neg c67).trans ((if_neg (fun z => z c74)).trans (if_pos c86))))] at h; exact h)
        | (rw [show bA M g op m (j + 1) = _ from (if_neg (fun z => z c40)).trans ((if_neg (fun z => z c49)).trans ((if_neg c67).trans ((if_neg (fun z => z c74)).trans (if_neg c86))))] at h; exact h)
    · refine wp_iload_5 dX0_bestApologies_43 ?_
      refine wp_callS_1 kX0_90 dX0_bestApologies_45 (c_J6_bitCount_0f7a4 ?_) ⟨Nat.le_of_ble_eq_true rfl, Nat.le_of_ble_eq_true rfl, Nat.le_of_ble_eq_true rfl⟩ (Nat.le_of_ble_eq_true rfl)
      refine wp_iload_1 dX0_bestApologies_48 ?_
      refine wp_icmp_le (tgt := 55) dX0_bestApologies_49 rfl (fun c49 => ?_) (fun c49 => ?_)
      · refine wp_rload_0 dX0_bestApologies_55 ?_
        refine wp_iload_5 dX0_bestApologies_56 ?_
        refine wp_callV_1 kX0_87 dX0_bestApologies_58 kd_101 rfl (c_X0_coursesWith hg h6 ?_) ⟨Nat.le_of_ble_eq_true rfl, Nat.le_of_ble_eq_true rfl, Nat.le_of_ble_eq_true rfl⟩ (Nat.le_of_ble_eq_true rfl)
        refine wp_istore_6 dX0_bestApologies_61 (Nat.le_of_ble_eq_true rfl) rfl ?_
        refine wp_iload_6 dX0_bestApologies_63 ?_
        refine wp_iload_4 dX0_bestApologies_65 ?_
        refine wp_icmp_lt (tgt := 89) dX0_bestApologies_67 rfl (fun c67 => ?_) (fun c67 => ?_)
        · refine wp_iload_5 dX0_bestApologies_89 ?_
          refine wp_istore_3 dX0_bestApologies_91 (Nat.le_of_ble_eq_true rfl) rfl ?_
          refine wp_iload_6 dX0_bestApologies_92 ?_
          refine wp_istore_4 dX0_bestApologies_94 (Nat.le_of_ble_eq_true rfl) rfl ?_
          refine wp_iinc_5 (v := nI ((j + 1) + 1)) dX0_bestApologies_96 (nI_inc _) (Nat.le_of_ble_eq_true rfl) rfl ?_
          refine wp_goto (tgt := 20) dX0_bestApologies_99 rfl ?_
          have h := ih (j + 1) (by omega)
          refine wp_drop_6 ?_
          first
            | (rw [show bA M g op m (j + 1) = _ from if_pos c40] at h; exact h)
            | (rw [show bA M g op m (j + 1) = _ from (if_neg (fun z => z c40)).trans (if_pos c49)] at h; exact h)
            | (rw [show bA M g op m (j + 1) = _ from (if_neg (fun z => z c40)).trans ((if_neg (fun z => z c49)).trans (if_pos c67))] at h; exact h)
            | (rw [show bA M g op m (j + 1) = _ from (if_neg (fun z => z c40)).trans ((if_neg (fun z => z c49)).trans ((if_neg c67).trans (if_pos c74)))] at h; exact h)
            | (rw [show bA M g op m (j + 1) = _ from (if_neg (fun z => z c40)).trans ((if_neg (fun z => z c49)).trans ((if_neg c67).trans ((if_neg (fun z => z c74)).trans (if_pos c86))))] at h; exact h)
            | (rw [show bA M g op m (j + 1) = _ from (if_neg (fun z => z c40)).trans ((if_neg (fun z => z c49)).trans ((if_neg c67).trans ((if_neg (fun z => z c74)).trans (if_neg c86))))] at h; exact h)
        · refine wp_iload_6 dX0_bestApologies_70 ?_
          refine wp_iload_4 dX0_bestApologies_72 ?_
          refine wp_icmp_ne (tgt := 96) dX0_bestApologies_74 rfl (fun c74 => ?_) (fun c74 => ?_)
          · refine wp_iinc_5 (v := nI ((j + 1) + 1)) dX0_bestApologies_96 (nI_inc _) (Nat.le_of_ble_eq_true rfl) rfl ?_
            refine wp_goto (tgt := 20) dX0_bestApologies_99 rfl ?_
            have h := ih (j + 1) (by omega)
            refine wp_drop_6 ?_
            first
              | (rw [show bA M g op m (j + 1) = _ from if_pos c40] at h; exact h)
              | (rw [show bA M g op m (j + 1) = _ from (if_neg (fun z => z c40)).trans (if_pos c49)] at h; exact h)
              | (rw [show bA M g op m (j + 1) = _ from (if_neg (fun z => z c40)).trans ((if_neg (fun z => z c49)).trans (if_pos c67))] at h; exact h)
              | (rw [show bA M g op m (j + 1) = _ from (if_neg (fun z => z c40)).trans ((if_neg (fun z => z c49)).trans ((if_neg c67).trans (if_pos c74)))] at h; exact h)
              | (rw [show bA M g op m (j + 1) = _ from (if_neg (fun z => z c40)).trans ((if_neg (fun z => z c49)).trans ((if_neg c67).trans ((if_neg (fun z => z c74)).trans (if_pos c86))))] at h; exact h)
              | (rw [show bA M g op m (j + 1) = _ from (if_neg (fun z => z c40)).trans ((if_neg (fun z => z c49)).trans ((if_neg c67).trans ((if_neg (fun z => z c74)).trans (if_neg c86))))] at h; exact h)
          · refine wp_iload_5 dX0_bestApologies_77 ?_
            refine wp_callS_1 kX0_90 dX0_bestApologies_79 (c_J6_bitCount_0f7a4 ?_) ⟨Nat.le_of_ble_eq_true rfl, Nat.le_of_ble_eq_true rfl, Nat.le_of_ble_eq_true rfl⟩ (Nat.le_of_ble_eq_true rfl)
            refine wp_iload_3 dX0_bestApologies_82 ?_
            refine wp_callS_1 kX0_90 dX0_bestApologies_83 (c_J6_bitCount_0f7a4 ?_) ⟨Nat.le_of_ble_eq_true rfl, Nat.le_of_ble_eq_true rfl, Nat.le_of_ble_eq_true rfl⟩ (Nat.le_of_ble_eq_true rfl)
            refine wp_icmp_ge (tgt := 96) dX0_bestApologies_86 rfl (fun c86 => ?_) (fun c86 => ?_)
            · refine wp_iinc_5 (v := nI ((j + 1) + 1)) dX0_bestApologies_96 (nI_inc _) (Nat.le_of_ble_eq_true rfl) rfl ?_
              refine wp_goto (tgt := 20) dX0_bestApologies_99 rfl ?_
              have h := ih (j + 1) (by omega)
              refine wp_drop_6 ?_
              first
                | (rw [show bA M g op m (j + 1) = _ from if_pos c40] at h; exact h)
                | (rw [show bA M g op m (j + 1) = _ from (if_neg (fun z => z c40)).trans (if_pos c49)] at h; exact h)
                | (rw [show bA M g op m (j + 1) = _ from (if_neg (fun z => z c40)).trans ((if_neg (fun z => z c49)).trans (if_pos c67))] at h; exact h)
                | (rw [show bA M g op m (j + 1) = _ from (if_neg (fun z => z c40)).trans ((if_neg (fun z => z c49)).trans ((if_neg c67).trans (if_pos c74)))] at h; exact h)
                | (rw [show bA M g op m (j + 1) = _ from (if_neg (fun z => z c40)).trans ((if_neg (fun z => z c49)).trans ((if_neg c67).trans ((if_neg (fun z => z c74)).trans (if_pos c86))))] at h; exact h)
                | (rw [show bA M g op m (j + 1) = _ from (if_neg (fun z => z c40)).trans ((if_neg (fun z => z c49)).trans ((if_neg c67).trans ((if_neg (fun z => z c74)).trans (if_neg c86))))] at h; exact h)
            · refine wp_iload_5 dX0_bestApologies_89 ?_
              refine wp_istore_3 dX0_bestApologies_91 (Nat.le_of_ble_eq_true rfl) rfl ?_
              refine wp_iload_6 dX0_bestApologies_92 ?_
              refine wp_istore_4 dX0_bestApologies_94 (Nat.le_of_ble_eq_true rfl) rfl ?_
              refine wp_iinc_5 (v := nI ((j + 1) + 1)) dX0_bestApologies_96 (nI_inc _) (Nat.le_of_ble_eq_true rfl) rfl ?_
              refine wp_goto (tgt := 20) dX0_bestApologies_99 rfl ?_
              have h := ih (j + 1) (by omega)
              refine wp_drop_6 ?_
              first
                | (rw [show bA M g op m (j + 1) = _ from if_pos c40] at h; exact h)
                | (rw [show bA M g op m (j + 1) = _ from (if_neg (fun z => z c40)).trans (if_pos c49)] at h; exact h)
                | (rw [show bA M g op m (j + 1) = _ from (if_neg (fun z => z c40)).trans ((if_neg (fun z => z c49)).trans (if_pos c67))] at h; exact h)
                | (rw [show bA M g op m (j + 1) = _ from (if_neg (fun z => z c40)).trans ((if_neg (fun z => z c49)).trans ((if_neg c67).trans (if_pos c74)))] at h; exact h)
                | (rw [show bA M g op m (j + 1) = _ from (if_neg (fun z => z c40)).trans ((if_neg (fun z => z c49)).trans ((if_neg c67).trans ((if_neg (fun z => z c74)).trans (if_pos c86))))] at h; exact h)
                | (rw [show bA M g op m (j + 1) = _ from (if_neg (fun z => z c40)).trans ((if_neg (fun z => z c49)).trans ((if_neg c67).trans ((if_neg (fun z => z c74)).trans (if_neg c86))))] at h; exact h)
      · refine wp_goto (tgt := 96) dX0_bestApologies_52 rfl ?_
        refine wp_iinc_5 (v := nI ((j + 1) + 1)) dX0_bestApologies_96 (nI_inc _) (Nat.le_of_ble_eq_true rfl) rfl ?_
        refine wp_goto (tgt := 20) dX0_bestApologies_99 rfl ?_
        have h := ih (j + 1) (by omega)
        refine wp_drop_6 ?_
        first
          | (rw [show bA M g op m (j + 1) = _ from if_pos c40] at h; exact h)
          | (rw [show bA M g op m (j + 1) = _ from (if_neg (fun z => z c40)).trans (if_pos c49)] at h; exact h)
          | (rw [show bA M g op m (j + 1) = _ from (if_neg (fun z => z c40)).trans ((if_neg (fun z => z c49)).trans (if_pos c67))] at h; exact h)
          | (rw [show bA M g op m (j + 1) = _ from (if_neg (fun z => z c40)).trans ((if_neg (fun z => z c49)).trans ((if_neg c67).trans (if_pos c74)))] at h; exact h)
          | (rw [show bA M g op m (j + 1) = _ from (if_neg (fun z => z c40)).trans ((if_neg (fun z => z c49)).trans ((if_neg c67).trans ((if_neg (fun z => z c74)).trans (if_pos c86))))] at h; exact h)
          | (rw [show bA M g op m (j + 1) = _ from (if_neg (fun z => z c40)).trans ((if_neg (fun z => z c49)).trans ((if_neg c67).trans ((if_neg (fun z => z c74)).trans (if_neg c86))))] at h; exact h)
set_option maxRecDepth 100000 in
set_option maxHeartbeats 4000000 in
theorem c_X0_bestApologies {κ : KX} {M : MM} {Q : Option Value → va_W → Prop} {m : Int32} {g : Nat} (hg : M.1 1 2 = nI g) (h6 : g ≤ 6) (hQ : Q (some (.int (bA M g (opn M (g - 1)) m (2 ^ (g - 1) - 1)).1)) (wM κ (M))) : CT κ (3, 0, 0) mX0_bestApologies [rv κ 101, .int m] (wM κ M) Q := by
  refine CT.of okX0_bestApologies [some (rv κ 101), some (.int m), none, none, none, none, none] (Nat.le_of_ble_eq_true rfl) rfl ?_
  refine wp_rload_0 dX0_bestApologies_0 ?_
  refine wp_getR (t := 1) fX0_24 dX0_bestApologies_1 kd_101 rfl (rf_101_0) ?_
  refine wp_callV_0 kX0_84 dX0_bestApologies_4 kd_1 rfl (c_X4_openToApology hg h6 ?_) ⟨Nat.le_of_ble_eq_true rfl, Nat.le_of_ble_eq_true rfl, Nat.le_of_ble_eq_true rfl⟩ (Nat.le_of_ble_eq_true rfl)
  refine wp_istore_2 dX0_bestApologies_7 (Nat.le_of_ble_eq_true rfl) rfl ?_
  refine wp_iconst (v := 0) dX0_bestApologies_8 rfl ?_
  refine wp_istore_3 dX0_bestApologies_9 (Nat.le_of_ble_eq_true rfl) rfl ?_
  refine wp_rload_0 dX0_bestApologies_10 ?_
  refine wp_iconst (v := 0) dX0_bestApologies_11 rfl ?_
  refine wp_callV_1 kX0_87 dX0_bestApologies_12 kd_101 rfl (c_X0_coursesWith hg h6 ?_) ⟨Nat.le_of_ble_eq_true rfl, Nat.le_of_ble_eq_true rfl, Nat.le_of_ble_eq_true rfl⟩ (Nat.le_of_ble_eq_true rfl)
  refine wp_istore_4 dX0_bestApologies_15 (Nat.le_of_ble_eq_true rfl) rfl ?_
  refine wp_iconst (v := 1) dX0_bestApologies_17 rfl ?_
  refine wp_istore_5 dX0_bestApologies_18 (Nat.le_of_ble_eq_true rfl) rfl ?_
  refine l_X0_bestApologies hg h6 ?_ (2 ^ (g - 1) - 1) 0 (by omega)
  refine wp_iload_3 dX0_bestApologies_102 ?_
  refine wp_iret dX0_bestApologies_103 rfl rfl ?_
  exact hQ
def bG (M : MM) (g : Nat) : Nat → Int32 × Int32
  | 0 => (-4, -1)
  | j + 1 => if cw M ((1 : Int32) <<< (nI j &&& 31)) (g - 1) ≤ (bG M g j).2 then bG M g j else (nI j, cw M ((1 : Int32) <<< (nI j &&& 31)) (g - 1))
set_option maxRecDepth 100000 in
set_option maxHeartbeats 4000000 in
theorem l_X0_bestGossip {κ : KX} {M : MM} {Q : Option Value → va_W → Prop} {g : Nat} (hg : M.1 1 2 = nI g) (h6 : g ≤ 6) (hx : WP κ (2, 0, 0) mX0_bestGossip 44 [some (rv κ 101), some (.int (bG M g ((g - 1))).1), some (.int (bG M g ((g - 1))).2), some (.int (nI ((g - 1)))), none] [] (wM κ (M)) (0, 0) Q) : ∀ n j, j + n = (g - 1) → WP κ (2, 0, 0) mX0_bestGossip 7 [some (rv κ 101), some (.int (bG M g j).1), some (.int (bG M g j).2), some (.int (nI j)), none] [] (wM κ (M)) (0, 0) Q := by
  intro n
  induction n with
  | zero =>
    intro j hn
    have hn : j = (g - 1) := hn
    refine wp_iload_3 dX0_bestGossip_7 ?_
    refine wp_rload_0 dX0_bestGossip_8 ?_
    refine wp_getR (t := 1) fX0_24 dX0_bestGossip_9 kd_101 rfl (rf_101_0) ?_
    refine wp_callV_0 kX0_61 dX0_bestGossip_12 kd_1 rfl (c_X4_walls hg h6 ?_) ⟨Nat.le_of_ble_eq_true rfl, Nat.le_of_ble_eq_true rfl, Nat.le_of_ble_eq_true rfl⟩ (Nat.le_of_ble_eq_true rfl)
    refine wp_icmp_ge (tgt := 44) dX0_bestGossip_15 rfl (fun c15 => ?_) (fun c15 => absurd (nI_le (by omega) (by omega)) c15)
    subst hn
    exact hx
  | succ n ih =>
    intro j hn
    refine wp_iload_3 dX0_bestGossip_7 ?_
    refine wp_rload_0 dX0_bestGossip_8 ?_
    refine wp_getR (t := 1) fX0_24 dX0_bestGossip_9 kd_101 rfl (rf_101_0) ?_
    refine wp_callV_0 kX0_61 dX0_bestGossip_12 kd_1 rfl (c_X4_walls hg h6 ?_) ⟨Nat.le_of_ble_eq_true rfl, Nat.le_of_ble_eq_true rfl, Nat.le_of_ble_eq_true rfl⟩ (Nat.le_of_ble_eq_true rfl)
    refine wp_icmp_ge (tgt := 44) dX0_bestGossip_15 rfl (fun c15 => absurd c15 (nI_ge (by omega) (by omega))) (fun c15 => ?_)
    refine wp_rload_0 dX0_bestGossip_18 ?_
    refine wp_iconst (v := 1) dX0_bestGossip_19 rfl ?_
    refine wp_iload_3 dX0_bestGossip_20 ?_
    refine wp_ishl dX0_bestGossip_21 ?_
    refine wp_callV_1 kX0_87 dX0_bestGossip_22 kd_101 rfl (c_X0_coursesWith hg h6 ?_) ⟨Nat.le_of_ble_eq_true rfl, Nat.le_of_ble_eq_true rfl, Nat.le_of_ble_eq_true rfl⟩ (Nat.le_of_ble_eq_true rfl)
    refine wp_istore_4 dX0_bestGossip_25 (Nat.le_of_ble_eq_true rfl) rfl ?_
    refine wp_iload_4 dX0_bestGossip_27 ?_
    refine wp_iload_2 dX0_bestGossip_29 ?_
    refine wp_icmp_le (tgt := 38) dX0_bestGossip_30 rfl (fun c30 => ?_) (fun c30 => ?_)
    · refine wp_iinc_3 (v := nI (j + 1)) dX0_bestGossip_38 (nI_inc _) (Nat.le_of_ble_eq_true rfl) rfl ?_
      refine wp_goto (tgt := 7) dX0_bestGossip_41 rfl ?_
      have h := ih (j + 1) (by omega)
      refine wp_drop_4 ?_
      first
        | (rw [show bG M g (j + 1) = _ from if_pos c30] at h; exact h)
        | (rw [show bG M g (j + 1) = _ from if_neg c30] at h; exact h)
    · refine wp_iload_3 dX0_bestGossip_33 ?_
      refine wp_istore_1 dX0_bestGossip_34 (Nat.le_of_ble_eq_true rfl) rfl ?_
      refine wp_iload_4 dX0_bestGossip_35 ?_
      refine wp_istore_2 dX0_bestGossip_37 (Nat.le_of_ble_eq_true rfl) rfl ?_
      refine wp_iinc_3 (v := nI (j + 1)) dX0_bestGossip_38 (nI_inc _) (Nat.le_of_ble_eq_true rfl) rfl ?_
      refine wp_goto (tgt := 7) dX0_bestGossip_41 rfl ?_
      have h := ih (j + 1) (by omega)
      refine wp_drop_4 ?_
      first
        | (rw [show bG M g (j + 1) = _ from if_pos c30] at h; exact h)
        | (rw [show bG M g (j + 1) = _ from if_neg c30] at h; exact h)
set_option maxRecDepth 100000 in
set_option maxHeartbeats 4000000 in
theorem c_X0_bestGossip {κ : KX} {M : MM} {Q : Option Value → va_W → Prop} {g : Nat} (hg : M.1 1 2 = nI g) (h6 : g ≤ 6) (hQ : Q (some (.int (bG M g (g - 1)).1)) (wM κ (M))) : CT κ (2, 0, 0) mX0_bestGossip [rv κ 101] (wM κ M) Q := by
  refine CT.of okX0_bestGossip [some (rv κ 101), none, none, none, none] (Nat.le_of_ble_eq_true rfl) rfl ?_
  refine wp_bipush (v := (-4)) dX0_bestGossip_0 rfl ?_
  refine wp_istore_1 dX0_bestGossip_2 (Nat.le_of_ble_eq_true rfl) rfl ?_
  refine wp_iconst (v := (-1)) dX0_bestGossip_3 rfl ?_
  refine wp_istore_2 dX0_bestGossip_4 (Nat.le_of_ble_eq_true rfl) rfl ?_
  refine wp_iconst (v := 0) dX0_bestGossip_5 rfl ?_
  refine wp_istore_3 dX0_bestGossip_6 (Nat.le_of_ble_eq_true rfl) rfl ?_
  refine l_X0_bestGossip hg h6 ?_ (g - 1) 0 (by omega)
  refine wp_iload_1 dX0_bestGossip_44 ?_
  refine wp_iret dX0_bestGossip_45 rfl rfl ?_
  exact hQ
def chI (M : MM) (p : Int32) : Nat → Int32
  | 0 => p
  | w + 1 => if M.1 5 w < 12 then chI M p w else chI M p w * (100 - M.1 5 w) / 100
def chO (M : MM) (g : Nat) : Nat → Int32
  | 0 => 1000000
  | j + 1 => chI M (chO M g j) (g - 1)
set_option maxRecDepth 100000 in
set_option maxHeartbeats 4000000 in
theorem l_X0_chance2 {κ : KX} {M : MM} {Q : Option Value → va_W → Prop} {g : Nat} {x y p : Int32} (hg : M.1 1 2 = nI g) (h6 : g ≤ 6) (hx : WP κ (1, 0, 0) mX0_chanceToStand 64 [some (rv κ 101), some (.int x), some (.int (chI M p ((g - 1)))), some (.int y), some (.int (nI ((g - 1)))), none] [] (wM κ (M)) (0, 0) Q) : ∀ n j, j + n = (g - 1) → WP κ (1, 0, 0) mX0_chanceToStand 13 [some (rv κ 101), some (.int x), some (.int (chI M p j)), some (.int y), some (.int (nI j)), none] [] (wM κ (M)) (0, 0) Q := by
  intro n
  induction n with
  | zero =>
    intro j hn
    have hn : j = (g - 1) := hn
    refine wp_iload_4 dX0_chanceToStand_13 ?_
    refine wp_rload_0 dX0_chanceToStand_15 ?_
    refine wp_getR (t := 1) fX0_24 dX0_chanceToStand_16 kd_101 rfl (rf_101_0) ?_
    refine wp_callV_0 kX0_61 dX0_chanceToStand_19 kd_1 rfl (c_X4_walls hg h6 ?_) ⟨Nat.le_of_ble_eq_true rfl, Nat.le_of_ble_eq_true rfl, Nat.le_of_ble_eq_true rfl⟩ (Nat.le_of_ble_eq_true rfl)
    refine wp_icmp_ge (tgt := 64) dX0_chanceToStand_22 rfl (fun c22 => ?_) (fun c22 => absurd (nI_le (by omega) (by omega)) c22)
    subst hn
    exact hx
  | succ n ih =>
    intro j hn
    refine wp_iload_4 dX0_chanceToStand_13 ?_
    refine wp_rload_0 dX0_chanceToStand_15 ?_
    refine wp_getR (t := 1) fX0_24 dX0_chanceToStand_16 kd_101 rfl (rf_101_0) ?_
    refine wp_callV_0 kX0_61 dX0_chanceToStand_19 kd_1 rfl (c_X4_walls hg h6 ?_) ⟨Nat.le_of_ble_eq_true rfl, Nat.le_of_ble_eq_true rfl, Nat.le_of_ble_eq_true rfl⟩ (Nat.le_of_ble_eq_true rfl)
    refine wp_icmp_ge (tgt := 64) dX0_chanceToStand_22 rfl (fun c22 => absurd c22 (nI_ge (by omega) (by omega))) (fun c22 => ?_)
    refine wp_rload_0 dX0_chanceToStand_25 ?_
    refine wp_getR (t := 1) fX0_24 dX0_chanceToStand_26 kd_101 rfl (rf_101_0) ?_
    refine wp_getR (t := 4) fX0_38 dX0_chanceToStand_29 kd_1 rfl (rf_1_5) ?_
    refine wp_getR (t := 5) fX0_45 dX0_chanceToStand_32 kd_4 rfl (rf_4_0) ?_
    refine wp_iload_4 dX0_chanceToStand_35 ?_
    refine wp_ald (j := j) dX0_chanceToStand_37 ar_5 (rfl) (by omega) ?_
    refine wp_istore_5 dX0_chanceToStand_38 (Nat.le_of_ble_eq_true rfl) rfl ?_
    refine wp_iload_5 dX0_chanceToStand_40 ?_
    refine wp_bipush (v := 12) dX0_chanceToStand_42 rfl ?_
    refine wp_icmp_lt (tgt := 58) dX0_chanceToStand_44 rfl (fun c44 => ?_) (fun c44 => ?_)
    · refine wp_iinc_4 (v := nI (j + 1)) dX0_chanceToStand_58 (nI_inc _) (Nat.le_of_ble_eq_true rfl) rfl ?_
      refine wp_goto (tgt := 13) dX0_chanceToStand_61 rfl ?_
      have h := ih (j + 1) (by omega)
      refine wp_drop_5 ?_
      first
        | (rw [show chI M p (j + 1) = _ from if_pos c44] at h; exact h)
        | (rw [show chI M p (j + 1) = _ from if_neg c44] at h; exact h)
    · refine wp_iload_2 dX0_chanceToStand_47 ?_
      refine wp_bipush (v := 100) dX0_chanceToStand_48 rfl ?_
      refine wp_iload_5 dX0_chanceToStand_50 ?_
      refine wp_isub dX0_chanceToStand_52 ?_
      refine wp_imul dX0_chanceToStand_53 ?_
      refine wp_bipush (v := 100) dX0_chanceToStand_54 rfl ?_
      refine wp_idiv dX0_chanceToStand_56 (by decide) ?_
      refine wp_istore_2 dX0_chanceToStand_57 (Nat.le_of_ble_eq_true rfl) rfl ?_
      refine wp_iinc_4 (v := nI (j + 1)) dX0_chanceToStand_58 (nI_inc _) (Nat.le_of_ble_eq_true rfl) rfl ?_
      refine wp_goto (tgt := 13) dX0_chanceToStand_61 rfl ?_
      have h := ih (j + 1) (by omega)
      refine wp_drop_5 ?_
      first
        | (rw [show chI M p (j + 1) = _ from if_pos c44] at h; exact h)
        | (rw [show chI M p (j + 1) = _ from if_neg c44] at h; exact h)
set_option maxRecDepth 100000 in
set_option maxHeartbeats 4000000 in
theorem l_X0_chance1 {κ : KX} {M : MM} {Q : Option Value → va_W → Prop} {g m : Nat} (hg : M.1 1 2 = nI g) (h6 : g ≤ 6) (hm : m < 1000) (hx : WP κ (1, 0, 0) mX0_chanceToStand 70 [some (rv κ 101), some (.int (nI m)), some (.int (chO M g m)), some (.int (nI m)), none, none] [] (wM κ (M)) (0, 0) Q) : ∀ n j, j + n = m → WP κ (1, 0, 0) mX0_chanceToStand 5 [some (rv κ 101), some (.int (nI m)), some (.int (chO M g j)), some (.int (nI j)), none, none] [] (wM κ (M)) (0, 0) Q := by
  intro n
  induction n with
  | zero =>
    intro j hn
    have hn : j = m := hn
    refine wp_iload_3 dX0_chanceToStand_5 ?_
    refine wp_iload_1 dX0_chanceToStand_6 ?_
    refine wp_icmp_ge (tgt := 70) dX0_chanceToStand_7 rfl (fun c7 => ?_) (fun c7 => absurd (nI_le (by omega) (by omega)) c7)
    subst hn
    exact hx
  | succ n ih =>
    intro j hn
    refine wp_iload_3 dX0_chanceToStand_5 ?_
    refine wp_iload_1 dX0_chanceToStand_6 ?_
    refine wp_icmp_ge (tgt := 70) dX0_chanceToStand_7 rfl (fun c7 => absurd c7 (nI_ge (by omega) (by omega))) (fun c7 => ?_)
    refine wp_iconst (v := 0) dX0_chanceToStand_10 rfl ?_
    refine wp_istore_4 dX0_chanceToStand_11 (Nat.le_of_ble_eq_true rfl) rfl ?_
    refine l_X0_chance2 hg h6 ?_ (g - 1) 0 (by omega)
    refine wp_iinc_3 (v := nI (j + 1)) dX0_chanceToStand_64 (nI_inc _) (Nat.le_of_ble_eq_true rfl) rfl ?_
    refine wp_goto (tgt := 5) dX0_chanceToStand_67 rfl ?_
    exact wp_drop_4 (ih (j + 1) (by omega))
set_option maxRecDepth 100000 in
set_option maxHeartbeats 4000000 in
theorem c_X0_chanceToStand {κ : KX} {M : MM} {Q : Option Value → va_W → Prop} {g m : Nat} (hg : M.1 1 2 = nI g) (h6 : g ≤ 6) (hm : m < 1000) (hQ : Q (some (.int (chO M g m))) (wM κ (M))) : CT κ (1, 0, 0) mX0_chanceToStand [rv κ 101, .int (nI m)] (wM κ M) Q := by
  refine CT.of okX0_chanceToStand [some (rv κ 101), some (.int (nI m)), none, none, none, none] (Nat.le_of_ble_eq_true rfl) rfl ?_
  refine wp_ldc nX0_95 dX0_chanceToStand_0 ?_
  refine wp_istore_2 dX0_chanceToStand_2 (Nat.le_of_ble_eq_true rfl) rfl ?_
  refine wp_iconst (v := 0) dX0_chanceToStand_3 rfl ?_
  refine wp_istore_3 dX0_chanceToStand_4 (Nat.le_of_ble_eq_true rfl) rfl ?_
  refine l_X0_chance1 hg h6 hm ?_ m 0 (by omega)
  refine wp_iload_2 dX0_chanceToStand_70 ?_
  refine wp_iret dX0_chanceToStand_71 rfl rfl ?_
  exact hQ
/-- a Sheet at k, its row behind it -/
def Sh (k : Nat) : Prop := kd k = 2 ∧ kd (k + 1) = 12 ∧ ln (k + 1) = 24
theorem rf_sh {k : Nat} (h : kd k = 2) (j : Nat) : rf k j = k + 1 := by simp [rf, h]
theorem sh_all : ∀ s, s < 4 → (kd (112 + 2 * s) = 2 ∧ kd (112 + 2 * s + 1) = 12 ∧ ln (112 + 2 * s + 1) = 24) := by decide +kernel
theorem sh_at {s : Nat} (h : s < 4) : Sh (112 + 2 * s) := sh_all s h
def fts (M : MM) (w k a : Nat) : Nat → Nat → Int32 → Int32 → Int32 → Int32
  | 0, _, _, _, _ => 1
  | n + 1, j, q, h, t => if lg_cmp (M.2 (k + 1) (a + j)) (grw M w q h t / 5).toInt64 = 0 then fts M w k a n (j + 1) (grw M w q h t) (grw M w q h t / 5) (M.1 1 3) else 0
theorem fts_01 (M : MM) (w k a : Nat) : ∀ n j q h t, fts M w k a n j q h t = 0 ∨ fts M w k a n j q h t = 1
  | 0, _, _, _, _ => Or.inr rfl
  | n + 1, j, q, h, t => by
    rw [fts]
    split
    · exact fts_01 M w k a n _ _ _ _
    · exact Or.inl rfl
set_option maxRecDepth 100000 in
set_option maxHeartbeats 4000000 in
theorem l_X0_fits {κ : KX} {M : MM} {Q : Option Value → va_W → Prop} {w k a b : Nat} {q0 : Int32} (hw : w < 5) (hk : Sh k) (hab : a + b ≤ 24) : ∀ n j q h t, j + n = b → Q (some (.int (fts M w k a n j q h t))) (wM κ M) → WP κ (3, 0, 0) mX0_fits 29 [some (rv κ 101), some (.int (nI w)), some (.int q0), some (rv κ k), some (.int (nI a)), some (.int (nI b)), some (.int q), some (.int h), some (.int t), some (.int (nI j))] [] (wM κ M) (0, 0) Q := by
  intro n
  induction n with
  | zero =>
    intro j q h t hn hQ
    refine wp_iload_9 dX0_fits_29 ?_
    refine wp_iload_5 dX0_fits_31 ?_
    refine wp_icmp_ge (tgt := 90) dX0_fits_33 rfl (fun c33 => ?_) (fun c33 => absurd (nI_le (by omega) (by omega)) c33)
    refine wp_iconst (v := 1) dX0_fits_90 rfl ?_
    refine wp_zret dX0_fits_91 rfl rfl rfl ?_
    exact hQ
  | succ n ih =>
    intro j q h t hn hQ
    refine wp_iload_9 dX0_fits_29 ?_
    refine wp_iload_5 dX0_fits_31 ?_
    refine wp_icmp_ge (tgt := 90) dX0_fits_33 rfl (fun c33 => absurd c33 (nI_ge (by omega) (by omega))) (fun c33 => ?_)
    refine wp_rload_0 dX0_fits_36 ?_
    refine wp_iload_1 dX0_fits_37 ?_
    refine wp_iload_6 dX0_fits_38 ?_
    refine wp_iload_7 dX0_fits_40 ?_
    refine wp_iload_8 dX0_fits_42 ?_
    refine wp_callV_4 kX0_50 dX0_fits_44 kd_101 rfl (c_X0_grown hw ?_) ⟨Nat.le_of_ble_eq_true rfl, Nat.le_of_ble_eq_true rfl, Nat.le_of_ble_eq_true rfl⟩ (Nat.le_of_ble_eq_true rfl)
    refine wp_istore_6 dX0_fits_47 (Nat.le_of_ble_eq_true rfl) rfl ?_
    refine wp_iload_6 dX0_fits_49 ?_
    refine wp_callSN_1 kX0_54 dX0_fits_51 (c_X6_coursesFor ?_) ⟨Nat.le_of_ble_eq_true rfl, Nat.le_of_ble_eq_true rfl, Nat.le_of_ble_eq_true rfl⟩ (Nat.le_of_ble_eq_true rfl)
    refine wp_istore_7 dX0_fits_54 (Nat.le_of_ble_eq_true rfl) rfl ?_
    refine wp_rload_3 dX0_fits_56 ?_
    refine wp_getR (t := (k + 1)) fX0_100 dX0_fits_57 hk.1 rfl (rf_sh hk.1 0) ?_
    refine wp_iload_4 dX0_fits_60 ?_
    refine wp_iload_9 dX0_fits_62 ?_
    refine wp_iadd dX0_fits_64 ?_
    refine wp_lald (j := (a + j)) dX0_fits_65 hk.2.1 (nI_add _ _) (by rw [hk.2.2]; omega) ?_
    refine wp_iload_7 dX0_fits_66 ?_
    refine wp_i2l dX0_fits_68 ?_
    refine wp_lcmp dX0_fits_69 ?_
    refine wp_if_eq (tgt := 75) dX0_fits_70 rfl (fun c70 => ?_) (fun c70 => ?_)
    · refine wp_rload_0 dX0_fits_75 ?_
      refine wp_getR (t := 1) fX0_24 dX0_fits_76 kd_101 rfl (rf_101_0) ?_
      refine wp_getI fX0_57 dX0_fits_79 kd_1 rfl ?_
      refine wp_istore_8 dX0_fits_82 (Nat.le_of_ble_eq_true rfl) rfl ?_
      refine wp_iinc_9 (v := nI (j + 1)) dX0_fits_84 (nI_inc _) (Nat.le_of_ble_eq_true rfl) rfl ?_
      refine wp_goto (tgt := 29) dX0_fits_87 rfl ?_
      exact ih (j + 1) _ _ _ (by omega) (Qe hQ (by rw [fts, if_pos c70]) rfl)
    · refine wp_iconst (v := 0) dX0_fits_73 rfl ?_
      refine wp_zret dX0_fits_74 rfl rfl rfl ?_
      exact Qe hQ (by rw [fts, if_neg c70]) rfl
def ftq (M : MM) (w k a b : Nat) (q : Int32) : Int32 := fts M w k a b 0 q (M.1 5 w) (wtm M)
set_option maxRecDepth 100000 in
set_option maxHeartbeats 4000000 in
theorem c_X0_fits {κ : KX} {M : MM} {Q : Option Value → va_W → Prop} {w k a b : Nat} {q0 : Int32} (hw : w < 5) (hk : Sh k) (hab : a + b ≤ 24) (hy : 0 < M.1 1 3) (hQ : Q (some (.int (ftq M w k a b q0))) (wM κ (M))) : CT κ (3, 0, 0) mX0_fits [rv κ 101, .int (nI w), .int q0, rv κ k, .int (nI a), .int (nI b)] (wM κ M) Q := by
  refine CT.of okX0_fits [some (rv κ 101), some (.int (nI w)), some (.int q0), some (rv κ k), some (.int (nI a)), some (.int (nI b)), none, none, none, none] (Nat.le_of_ble_eq_true rfl) rfl ?_
  refine wp_iload_2 dX0_fits_0 ?_
  refine wp_istore_6 dX0_fits_1 (Nat.le_of_ble_eq_true rfl) rfl ?_
  refine wp_rload_0 dX0_fits_3 ?_
  refine wp_getR (t := 1) fX0_24 dX0_fits_4 kd_101 rfl (rf_101_0) ?_
  refine wp_getR (t := 4) fX0_38 dX0_fits_7 kd_1 rfl (rf_1_5) ?_
  refine wp_getR (t := 5) fX0_45 dX0_fits_10 kd_4 rfl (rf_4_0) ?_
  refine wp_iload_1 dX0_fits_13 ?_
  refine wp_ald (j := w) dX0_fits_14 ar_5 (rfl) (by omega) ?_
  refine wp_istore_7 dX0_fits_15 (Nat.le_of_ble_eq_true rfl) rfl ?_
  refine wp_rload_0 dX0_fits_17 ?_
  refine wp_getR (t := 1) fX0_24 dX0_fits_18 kd_101 rfl (rf_101_0) ?_
  refine wp_callV_0 kX0_46 dX0_fits_21 kd_1 rfl (c_X4_weeksToMichaelmas hy ?_) ⟨Nat.le_of_ble_eq_true rfl, Nat.le_of_ble_eq_true rfl, Nat.le_of_ble_eq_true rfl⟩ (Nat.le_of_ble_eq_true rfl)
  refine wp_istore_8 dX0_fits_24 (Nat.le_of_ble_eq_true rfl) rfl ?_
  refine wp_iconst (v := 0) dX0_fits_26 rfl ?_
  refine wp_istore_9 dX0_fits_27 (Nat.le_of_ble_eq_true rfl) rfl ?_
  exact l_X0_fits hw hk hab b 0 _ _ _ (by omega) hQ
def hmf (M : MM) (w k a b : Nat) : Nat → Int32
  | 0 => 0
  | j + 1 => if ftq M w k a b (nI j) = 0 then hmf M w k a b j else hmf M w k a b j + 1
def ltf (M : MM) (w k a b : Nat) : Nat → Nat → Int32
  | 0, _ => -4
  | n + 1, j => if ftq M w k a b (nI j) = 0 then ltf M w k a b n (j + 1) else nI j
set_option maxRecDepth 100000 in
set_option maxHeartbeats 4000000 in
theorem l_X0_howManyFit {κ : KX} {M : MM} {Q : Option Value → va_W → Prop} {w k a b : Nat} (hw : w < 5) (hk : Sh k) (hab : a + b ≤ 24) (hy : 0 < M.1 1 3) (hx : WP κ (4, 0, 0) mX0_howManyFit 36 [some (rv κ 101), some (.int (nI w)), some (rv κ k), some (.int (nI a)), some (.int (nI b)), some (.int (hmf M w k a b 100)), some (.int (nI 100))] [] (wM κ (M)) (0, 0) Q) : ∀ n j, j + n = 100 → WP κ (4, 0, 0) mX0_howManyFit 6 [some (rv κ 101), some (.int (nI w)), some (rv κ k), some (.int (nI a)), some (.int (nI b)), some (.int (hmf M w k a b j)), some (.int (nI j))] [] (wM κ (M)) (0, 0) Q := by
  intro n
  induction n with
  | zero =>
    intro j hn
    have hn : j = 100 := hn
    refine wp_iload_6 dX0_howManyFit_6 ?_
    refine wp_bipush (v := 99) dX0_howManyFit_8 rfl ?_
    refine wp_icmp_gt (tgt := 36) dX0_howManyFit_10 rfl (fun c10 => ?_) (fun c10 => absurd (nI_lt (a := 99) (by omega) (by omega)) c10)
    subst hn
    exact hx
  | succ n ih =>
    intro j hn
    refine wp_iload_6 dX0_howManyFit_6 ?_
    refine wp_bipush (v := 99) dX0_howManyFit_8 rfl ?_
    refine wp_icmp_gt (tgt := 36) dX0_howManyFit_10 rfl (fun c10 => absurd c10 (nI_nlt (a := 99) (by omega) (by omega))) (fun c10 => ?_)
    refine wp_rload_0 dX0_howManyFit_13 ?_
    refine wp_iload_1 dX0_howManyFit_14 ?_
    refine wp_iload_6 dX0_howManyFit_15 ?_
    refine wp_rload_2 dX0_howManyFit_17 ?_
    refine wp_iload_3 dX0_howManyFit_18 ?_
    refine wp_iload_4 dX0_howManyFit_19 ?_
    refine wp_callV_5 kX0_96 dX0_howManyFit_21 kd_101 rfl (c_X0_fits hw hk hab hy ?_) ⟨Nat.le_of_ble_eq_true rfl, Nat.le_of_ble_eq_true rfl, Nat.le_of_ble_eq_true rfl⟩ (Nat.le_of_ble_eq_true rfl)
    refine wp_if_eq (tgt := 30) dX0_howManyFit_24 rfl (fun c24 => ?_) (fun c24 => ?_)
    · refine wp_iinc_6 (v := nI (j + 1)) dX0_howManyFit_30 (nI_inc _) (Nat.le_of_ble_eq_true rfl) rfl ?_
      refine wp_goto (tgt := 6) dX0_howManyFit_33 rfl ?_
      have h := ih (j + 1) (by omega)
      first
        | (rw [show hmf M w k a b (j + 1) = hmf M w k a b j from if_pos c24] at h; exact h)
        | (rw [show hmf M w k a b (j + 1) = hmf M w k a b j + 1 from if_neg c24] at h; exact h)
    · refine wp_iinc_5 dX0_howManyFit_27 rfl (Nat.le_of_ble_eq_true rfl) rfl ?_
      refine wp_iinc_6 (v := nI (j + 1)) dX0_howManyFit_30 (nI_inc _) (Nat.le_of_ble_eq_true rfl) rfl ?_
      refine wp_goto (tgt := 6) dX0_howManyFit_33 rfl ?_
      have h := ih (j + 1) (by omega)
      first
        | (rw [show hmf M w k a b (j + 1) = hmf M w k a b j from if_pos c24] at h; exact h)
        | (rw [show hmf M w k a b (j + 1) = hmf M w k a b j + 1 from if_neg c24] at h; exact h)
set_option maxRecDepth 100000 in
set_option maxHeartbeats 4000000 in
theorem c_X0_howManyFit {κ : KX} {M : MM} {Q : Option Value → va_W → Prop} {w k a b : Nat} (hw : w < 5) (hk : Sh k) (hab : a + b ≤ 24) (hy : 0 < M.1 1 3) (hQ : Q (some (.int (hmf M w k a b 100))) (wM κ (M))) : CT κ (4, 0, 0) mX0_howManyFit [rv κ 101, .int (nI w), rv κ k, .int (nI a), .int (nI b)] (wM κ M) Q := by
  refine CT.of okX0_howManyFit [some (rv κ 101), some (.int (nI w)), some (rv κ k), some (.int (nI a)), some (.int (nI b)), none, none] (Nat.le_of_ble_eq_true rfl) rfl ?_
  refine wp_iconst (v := 0) dX0_howManyFit_0 rfl ?_
  refine wp_istore_5 dX0_howManyFit_1 (Nat.le_of_ble_eq_true rfl) rfl ?_
  refine wp_iconst (v := 0) dX0_howManyFit_3 rfl ?_
  refine wp_istore_6 dX0_howManyFit_4 (Nat.le_of_ble_eq_true rfl) rfl ?_
  refine l_X0_howManyFit hw hk hab hy ?_ 100 0 (by omega)
  refine wp_iload_5 dX0_howManyFit_36 ?_
  refine wp_iret dX0_howManyFit_38 rfl rfl ?_
  exact hQ
set_option maxRecDepth 100000 in
set_option maxHeartbeats 4000000 in
theorem l_X0_leastThatFits {κ : KX} {M : MM} {Q : Option Value → va_W → Prop} {w k a b : Nat} (hw : w < 5) (hk : Sh k) (hab : a + b ≤ 24) (hy : 0 < M.1 1 3) : ∀ n j, j + n = 100 → Q (some (.int (ltf M w k a b n j))) (wM κ M) → WP κ (4, 0, 0) mX0_leastThatFits 3 [some (rv κ 101), some (.int (nI w)), some (rv κ k), some (.int (nI a)), some (.int (nI b)), some (.int (nI j))] [] (wM κ M) (0, 0) Q := by
  intro n
  induction n with
  | zero =>
    intro j hn hQ
    refine wp_iload_5 dX0_leastThatFits_3 ?_
    refine wp_bipush (v := 99) dX0_leastThatFits_5 rfl ?_
    refine wp_icmp_gt (tgt := 33) dX0_leastThatFits_7 rfl (fun c7 => ?_) (fun c7 => absurd (nI_lt (a := 99) (by omega) (by omega)) c7)
    refine wp_bipush (v := (-4)) dX0_leastThatFits_33 rfl ?_
    refine wp_iret dX0_leastThatFits_35 rfl rfl ?_
    exact hQ
  | succ n ih =>
    intro j hn hQ
    refine wp_iload_5 dX0_leastThatFits_3 ?_
    refine wp_bipush (v := 99) dX0_leastThatFits_5 rfl ?_
    refine wp_icmp_gt (tgt := 33) dX0_leastThatFits_7 rfl (fun c7 => absurd c7 (nI_nlt (a := 99) (by omega) (by omega))) (fun c7 => ?_)
    refine wp_rload_0 dX0_leastThatFits_10 ?_
    refine wp_iload_1 dX0_leastThatFits_11 ?_
    refine wp_iload_5 dX0_leastThatFits_12 ?_
    refine wp_rload_2 dX0_leastThatFits_14 ?_
    refine wp_iload_3 dX0_leastThatFits_15 ?_
    refine wp_iload_4 dX0_leastThatFits_16 ?_
    refine wp_callV_5 kX0_96 dX0_leastThatFits_18 kd_101 rfl (c_X0_fits hw hk hab hy ?_) ⟨Nat.le_of_ble_eq_true rfl, Nat.le_of_ble_eq_true rfl, Nat.le_of_ble_eq_true rfl⟩ (Nat.le_of_ble_eq_true rfl)
    refine wp_if_eq (tgt := 27) dX0_leastThatFits_21 rfl (fun c21 => ?_) (fun c21 => ?_)
    · refine wp_iinc_5 (v := nI (j + 1)) dX0_leastThatFits_27 (nI_inc _) (Nat.le_of_ble_eq_true rfl) rfl ?_
      refine wp_goto (tgt := 3) dX0_leastThatFits_30 rfl ?_
      exact ih (j + 1) (by omega) (Qe hQ (by rw [ltf, if_pos c21]) rfl)
    · refine wp_iload_5 dX0_leastThatFits_24 ?_
      refine wp_iret dX0_leastThatFits_26 rfl rfl ?_
      exact Qe hQ (by rw [ltf, if_neg c21]) rfl
set_option maxRecDepth 100000 in
set_option maxHeartbeats 4000000 in
theorem c_X0_leastThatFits {κ : KX} {M : MM} {Q : Option Value → va_W → Prop} {w k a b : Nat} (hw : w < 5) (hk : Sh k) (hab : a + b ≤ 24) (hy : 0 < M.1 1 3) (hQ : Q (some (.int (ltf M w k a b 100 0))) (wM κ (M))) : CT κ (4, 0, 0) mX0_leastThatFits [rv κ 101, .int (nI w), rv κ k, .int (nI a), .int (nI b)] (wM κ M) Q := by
  refine CT.of okX0_leastThatFits [some (rv κ 101), some (.int (nI w)), some (rv κ k), some (.int (nI a)), some (.int (nI b)), none] (Nat.le_of_ble_eq_true rfl) rfl ?_
  refine wp_iconst (v := 0) dX0_leastThatFits_0 rfl ?_
  refine wp_istore_5 dX0_leastThatFits_1 (Nat.le_of_ble_eq_true rfl) rfl ?_
  exact l_X0_leastThatFits hw hk hab hy 100 0 (by omega) hQ
