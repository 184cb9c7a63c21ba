/-! the street: sums, roots, weeks, wind, sight -/
def smI (f : Nat → Int32) : Nat → Int32
  | 0 => 0
  | j + 1 => smI f j + f j
set_option maxRecDepth 100000 in
set_option maxHeartbeats 4000000 in
theorem l_X6_sum {κ : KX} {M : MM} {Q : Option Value → va_W → Prop} {k N m : Nat} (ha : AR k N) (hm : m ≤ N) (hN : N < 1000) (hx : WP κ (0, 0, 0) mX6_sum 27 [some (rv κ k), some (.int (nI m)), some (.int (smI (M.1 k) m)), some (.int (nI m))] [] (wM κ (M)) (0, 0) Q) : ∀ n j, j + n = m → WP κ (0, 0, 0) mX6_sum 4 [some (rv κ k), some (.int (nI m)), some (.int (smI (M.1 k) j)), some (.int (nI j))] [] (wM κ (M)) (0, 0) Q := by
  intro n
  induction n with
  | zero =>
    intro j hn
    have hn : j = m := hn
    refine wp_iload_3 dX6_sum_4 ?_
    refine wp_iload_1 dX6_sum_5 ?_
    refine wp_icmp_ge (tgt := 27) dX6_sum_6 rfl (fun c6 => ?_) (fun c6 => absurd (nI_le (by omega) (by omega)) c6)
    subst hn
    exact hx
  | succ n ih =>
    intro j hn
    refine wp_iload_3 dX6_sum_4 ?_
    refine wp_iload_1 dX6_sum_5 ?_
    refine wp_icmp_ge (tgt := 27) dX6_sum_6 rfl (fun c6 => absurd c6 (nI_ge (by omega) (by omega))) (fun c6 => ?_)
    refine wp_iload_3 dX6_sum_9 ?_
    refine wp_rload_0 dX6_sum_10 ?_
    refine wp_alen dX6_sum_11 ha.1 ?_
    refine wp_icmp_ge (tgt := 27) dX6_sum_12 rfl (fun c12 => absurd c12 (by rw [ha.2]; exact nI_ge (by omega) (by omega))) (fun c12 => ?_)
    refine wp_iload_2 dX6_sum_15 ?_
    refine wp_rload_0 dX6_sum_16 ?_
    refine wp_iload_3 dX6_sum_17 ?_
    refine wp_ald (j := j) dX6_sum_18 ha (rfl) (by omega) ?_
    refine wp_iadd dX6_sum_19 ?_
    refine wp_istore_2 dX6_sum_20 (Nat.le_of_ble_eq_true rfl) rfl ?_
    refine wp_iinc_3 (v := nI (j + 1)) dX6_sum_21 (nI_inc _) (Nat.le_of_ble_eq_true rfl) rfl ?_
    refine wp_goto (tgt := 4) dX6_sum_24 rfl ?_
    exact ih (j + 1) (by omega)
set_option maxRecDepth 100000 in
set_option maxHeartbeats 4000000 in
theorem c_X6_sum {κ : KX} {M : MM} {Q : Option Value → va_W → Prop} {k N m : Nat} (ha : AR k N) (hm : m ≤ N) (hN : N < 1000) (hQ : Q (some (.int (smI (M.1 k) m))) (wM κ (M))) : CT κ (0, 0, 0) mX6_sum [rv κ k, .int (nI m)] (wM κ M) Q := by
  refine CT.of okX6_sum [some (rv κ k), some (.int (nI m)), none, none] (Nat.le_of_ble_eq_true rfl) rfl ?_
  refine wp_iconst (v := 0) dX6_sum_0 rfl ?_
  refine wp_istore_2 dX6_sum_1 (Nat.le_of_ble_eq_true rfl) rfl ?_
  refine wp_iconst (v := 0) dX6_sum_2 rfl ?_
  refine wp_istore_3 dX6_sum_3 (Nat.le_of_ble_eq_true rfl) rfl ?_
  refine l_X6_sum ha hm hN ?_ m 0 (by omega)
  refine wp_iload_2 dX6_sum_27 ?_
  refine wp_iret dX6_sum_28 rfl rfl ?_
  exact hQ
def rtO (x : Int32) : Nat → Nat → Int32 → Int32
  | 0, _, c => c
  | n + 1, j, c => if x < nI j * nI j then c else rtO x n (j + 1) (nI j)
set_option maxRecDepth 100000 in
set_option maxHeartbeats 4000000 in
theorem l_X6_rootOf {κ : KX} {M : MM} {Q : Option Value → va_W → Prop} {x : Int32} : ∀ n j c, j + n = 21 → Q (some (.int (rtO x n j c))) (wM κ M) → WP κ (0, 0, 0) mX6_rootOf 4 [some (.int x), some (.int c), some (.int (nI j))] [] (wM κ M) (0, 0) Q := by
  intro n
  induction n with
  | zero =>
    intro j c hn hQ
    refine wp_iload_2 dX6_rootOf_4 ?_
    refine wp_bipush (v := 20) dX6_rootOf_5 rfl ?_
    refine wp_icmp_gt (tgt := 25) dX6_rootOf_7 rfl (fun c7 => ?_) (fun c7 => absurd (nI_lt (a := 20) (by omega) (by omega)) c7)
    refine wp_iload_1 dX6_rootOf_25 ?_
    refine wp_iret dX6_rootOf_26 rfl rfl ?_
    exact hQ
  | succ n ih =>
    intro j c hn hQ
    refine wp_iload_2 dX6_rootOf_4 ?_
    refine wp_bipush (v := 20) dX6_rootOf_5 rfl ?_
    refine wp_icmp_gt (tgt := 25) dX6_rootOf_7 rfl (fun c7 => absurd c7 (nI_nlt (a := 20) (by omega) (by omega))) (fun c7 => ?_)
    refine wp_iload_2 dX6_rootOf_10 ?_
    refine wp_iload_2 dX6_rootOf_11 ?_
    refine wp_imul dX6_rootOf_12 ?_
    refine wp_iload_0 dX6_rootOf_13 ?_
    refine wp_icmp_gt (tgt := 25) dX6_rootOf_14 rfl (fun c14 => ?_) (fun c14 => ?_)
    · refine wp_iload_1 dX6_rootOf_25 ?_
      refine wp_iret dX6_rootOf_26 rfl rfl ?_
      exact Qe hQ (by rw [rtO, if_pos c14]) rfl
    · refine wp_iload_2 dX6_rootOf_17 ?_
      refine wp_istore_1 dX6_rootOf_18 (Nat.le_of_ble_eq_true rfl) rfl ?_
      refine wp_iinc_2 (v := nI (j + 1)) dX6_rootOf_19 (nI_inc _) (Nat.le_of_ble_eq_true rfl) rfl ?_
      refine wp_goto (tgt := 4) dX6_rootOf_22 rfl ?_
      exact ih (j + 1) (nI j) (by omega) (Qe hQ (by rw [rtO, if_neg c14]) rfl)
set_option maxRecDepth 100000 in
set_option maxHeartbeats 4000000 in
theorem c_X6_rootOf {κ : KX} {M : MM} {Q : Option Value → va_W → Prop} {x : Int32}  (hQ : Q (some (.int (rtO x 20 1 0))) (wM κ (M))) : CT κ (0, 0, 0) mX6_rootOf [.int x] (wM κ M) Q := by
  refine CT.of okX6_rootOf [some (.int x), none, none] (Nat.le_of_ble_eq_true rfl) rfl ?_
  refine wp_iconst (v := 0) dX6_rootOf_0 rfl ?_
  refine wp_istore_1 dX6_rootOf_1 (Nat.le_of_ble_eq_true rfl) rfl ?_
  refine wp_iconst (v := 1) dX6_rootOf_2 rfl ?_
  refine wp_istore_2 dX6_rootOf_3 (Nat.le_of_ble_eq_true rfl) rfl ?_
  exact l_X6_rootOf 20 1 0 (by omega) hQ
def vAll (M : MM) : Nat → MM
  | 0 => M
  | j + 1 => var (vAll M j) j (wkl (vAll M j) j ((vAll M j).1 5 j))
theorem vAll_fr (M : MM) {k : Nat} (hk : k ≠ 6) : ∀ j, (vAll M j).1 k = M.1 k
  | 0 => rfl
  | j + 1 => by
    have ih := vAll_fr M hk j
    simp [vAll, var, sI, hk, ih]
def aAll (M : MM) : Nat → MM
  | 0 => M
  | j + 1 => ass (aAll M j) j
theorem aAll_fr (M : MM) {k : Nat} (h5 : k ≠ 5) (h8 : k ≠ 8) : ∀ j, (aAll M j).1 k = M.1 k
  | 0 => rfl
  | j + 1 => by
    have ih := aAll_fr M h5 h8 j
    simp [aAll, ass, sI, h5, h8, ih]
set_option maxRecDepth 100000 in
set_option maxHeartbeats 4000000 in
theorem l_X4_passWeek1 {κ : KX} {M : MM} {Q : Option Value → va_W → Prop} {g : Nat} (hg : M.1 1 2 = nI g) (h6 : g ≤ 6) (hx : WP κ (3, 0, 0) mX4_passWeek 36 [some (rv κ 1), some (.int (nI ((g - 1)))), none] [] (wM κ (vAll M ((g - 1)))) (0, 0) Q) : ∀ n j, j + n = (g - 1) → WP κ (3, 0, 0) mX4_passWeek 2 [some (rv κ 1), some (.int (nI j)), none] [] (wM κ (vAll M j)) (0, 0) Q := by
  intro n
  induction n with
  | zero =>
    intro j hn
    have hn : j = (g - 1) := hn
    refine wp_iload_1 dX4_passWeek_2 ?_
    refine wp_rload_0 dX4_passWeek_3 ?_
    refine wp_callV_0 kX4_62 dX4_passWeek_4 kd_1 rfl (c_X4_walls (g := g) (by rw [vAll_fr M (by decide)]; exact hg) h6 ?_) ⟨Nat.le_of_ble_eq_true rfl, Nat.le_of_ble_eq_true rfl, Nat.le_of_ble_eq_true rfl⟩ (Nat.le_of_ble_eq_true rfl)
    refine wp_icmp_ge (tgt := 36) dX4_passWeek_7 rfl (fun c7 => ?_) (fun c7 => absurd (nI_le (by omega) (by omega)) c7)
    subst hn
    exact hx
  | succ n ih =>
    intro j hn
    refine wp_iload_1 dX4_passWeek_2 ?_
    refine wp_rload_0 dX4_passWeek_3 ?_
    refine wp_callV_0 kX4_62 dX4_passWeek_4 kd_1 rfl (c_X4_walls (g := g) (by rw [vAll_fr M (by decide)]; exact hg) h6 ?_) ⟨Nat.le_of_ble_eq_true rfl, Nat.le_of_ble_eq_true rfl, Nat.le_of_ble_eq_true rfl⟩ (Nat.le_of_ble_eq_true rfl)
    refine wp_icmp_ge (tgt := 36) dX4_passWeek_7 rfl (fun c7 => absurd c7 (nI_ge (by omega) (by omega))) (fun c7 => ?_)
    refine wp_rload_0 dX4_passWeek_10 ?_
    refine wp_iload_1 dX4_passWeek_11 ?_
    refine wp_rload_0 dX4_passWeek_12 ?_
    refine wp_iload_1 dX4_passWeek_13 ?_
    refine wp_rload_0 dX4_passWeek_14 ?_
    refine wp_getR (t := 4) fX4_31 dX4_passWeek_15 kd_1 rfl (rf_1_5) ?_
    refine wp_getR (t := 5) fX4_93 dX4_passWeek_18 kd_4 rfl (rf_4_0) ?_
    refine wp_iload_1 dX4_passWeek_21 ?_
    refine wp_ald (j := j) dX4_passWeek_22 ar_5 (rfl) (by omega) ?_
    refine wp_callV_2 kX4_109 dX4_passWeek_23 kd_1 rfl (c_X4_weekly (by omega) ?_) ⟨Nat.le_of_ble_eq_true rfl, Nat.le_of_ble_eq_true rfl, Nat.le_of_ble_eq_true rfl⟩ (Nat.le_of_ble_eq_true rfl)
    refine wp_callV_2 kX4_112 dX4_passWeek_26 kd_1 rfl (c_X4_vary (by omega) ?_) ⟨Nat.le_of_ble_eq_true rfl, Nat.le_of_ble_eq_true rfl, Nat.le_of_ble_eq_true rfl⟩ (Nat.le_of_ble_eq_true rfl)
    refine wp_pop_int dX4_passWeek_29 ?_
    refine wp_iinc_1 (v := nI (j + 1)) dX4_passWeek_30 (nI_inc _) (Nat.le_of_ble_eq_true rfl) rfl ?_
    refine wp_goto (tgt := 2) dX4_passWeek_33 rfl ?_
    exact ih (j + 1) (by omega)
set_option maxRecDepth 100000 in
set_option maxHeartbeats 4000000 in
theorem l_X4_passWeek2 {κ : KX} {M : MM} {Q : Option Value → va_W → Prop} {g : Nat} (hg : M.1 1 2 = nI g) (h6 : g ≤ 6) (hx : WP κ (3, 0, 0) mX4_passWeek 88 [some (rv κ 1), some (.int 1), some (.int (nI ((g - 1))))] [] (wM κ (aAll M ((g - 1)))) (0, 0) Q) : ∀ n j, j + n = (g - 1) → WP κ (3, 0, 0) mX4_passWeek 65 [some (rv κ 1), some (.int 1), some (.int (nI j))] [] (wM κ (aAll M j)) (0, 0) Q := by
  intro n
  induction n with
  | zero =>
    intro j hn
    have hn : j = (g - 1) := hn
    refine wp_iload_1 dX4_passWeek_65 ?_
    refine wp_if_eq (tgt := 88) dX4_passWeek_66 rfl (fun c66 => absurd c66 (by decide)) (fun c66 => ?_)
    refine wp_iload_2 dX4_passWeek_69 ?_
    refine wp_rload_0 dX4_passWeek_70 ?_
    refine wp_callV_0 kX4_62 dX4_passWeek_71 kd_1 rfl (c_X4_walls (g := g) (by rw [aAll_fr M (by decide) (by decide)]; exact hg) h6 ?_) ⟨Nat.le_of_ble_eq_true rfl, Nat.le_of_ble_eq_true rfl, Nat.le_of_ble_eq_true rfl⟩ (Nat.le_of_ble_eq_true rfl)
    refine wp_icmp_ge (tgt := 88) dX4_passWeek_74 rfl (fun c74 => ?_) (fun c74 => absurd (nI_le (by omega) (by omega)) c74)
    subst hn
    exact hx
  | succ n ih =>
    intro j hn
    refine wp_iload_1 dX4_passWeek_65 ?_
    refine wp_if_eq (tgt := 88) dX4_passWeek_66 rfl (fun c66 => absurd c66 (by decide)) (fun c66 => ?_)
    refine wp_iload_2 dX4_passWeek_69 ?_
    refine wp_rload_0 dX4_passWeek_70 ?_
    refine wp_callV_0 kX4_62 dX4_passWeek_71 kd_1 rfl (c_X4_walls (g := g) (by rw [aAll_fr M (by decide) (by decide)]; exact hg) h6 ?_) ⟨Nat.le_of_ble_eq_true rfl, Nat.le_of_ble_eq_true rfl, Nat.le_of_ble_eq_true rfl⟩ (Nat.le_of_ble_eq_true rfl)
    refine wp_icmp_ge (tgt := 88) dX4_passWeek_74 rfl (fun c74 => absurd c74 (nI_ge (by omega) (by omega))) (fun c74 => ?_)
    refine wp_rload_0 dX4_passWeek_77 ?_
    refine wp_iload_2 dX4_passWeek_78 ?_
    refine wp_callV_1 kX4_118 dX4_passWeek_79 kd_1 rfl (c_X4_assess (by omega) ?_) ⟨Nat.le_of_ble_eq_true rfl, Nat.le_of_ble_eq_true rfl, Nat.le_of_ble_eq_true rfl⟩ (Nat.le_of_ble_eq_true rfl)
    refine wp_iinc_2 (v := nI (j + 1)) dX4_passWeek_82 (nI_inc _) (Nat.le_of_ble_eq_true rfl) rfl ?_
    refine wp_goto (tgt := 65) dX4_passWeek_85 rfl ?_
    exact ih (j + 1) (by omega)
def pwk (g : Nat) (M : MM) : MM :=
  if wtm (vAll M (g - 1)) = 1 then aAll (sI (vAll M (g - 1)) 4 4 ((vAll M (g - 1)).1 4 4 + 1)) (g - 1) else sI (vAll M (g - 1)) 4 4 ((vAll M (g - 1)).1 4 4 + 1)
set_option maxRecDepth 100000 in
set_option maxHeartbeats 4000000 in
theorem c_X4_passWeek {κ : KX} {M : MM} {Q : Option Value → va_W → Prop} {g : Nat} (hg : M.1 1 2 = nI g) (h6 : g ≤ 6) (hy : 0 < M.1 1 3) (hQ : Q (none) (wM κ (pwk g M))) : CT κ (3, 0, 0) mX4_passWeek [rv κ 1] (wM κ M) Q := by
  refine CT.of okX4_passWeek [some (rv κ 1), none, none] (Nat.le_of_ble_eq_true rfl) rfl ?_
  refine wp_iconst (v := 0) dX4_passWeek_0 rfl ?_
  refine wp_istore_1 dX4_passWeek_1 (Nat.le_of_ble_eq_true rfl) rfl ?_
  refine l_X4_passWeek1 hg h6 ?_ (g - 1) 0 (by omega)
  refine wp_rload_0 dX4_passWeek_36 ?_
  refine wp_callV_0 kX4_115 dX4_passWeek_37 kd_1 rfl (c_X4_weeksToMichaelmas (by rw [vAll_fr M (by decide)]; exact hy) ?_) ⟨Nat.le_of_ble_eq_true rfl, Nat.le_of_ble_eq_true rfl, Nat.le_of_ble_eq_true rfl⟩ (Nat.le_of_ble_eq_true rfl)
  refine wp_iconst (v := 1) dX4_passWeek_40 rfl ?_
  refine wp_icmp_ne (tgt := 48) dX4_passWeek_41 rfl (fun c41 => ?_) (fun c41 => ?_)
  · refine wp_iconst (v := 0) dX4_passWeek_48 rfl ?_
    refine wp_istore_1 dX4_passWeek_49 (Nat.le_of_ble_eq_true rfl) rfl ?_
    refine wp_rload_0 dX4_passWeek_50 ?_
    refine wp_getR (t := 4) fX4_31 dX4_passWeek_51 kd_1 rfl (rf_1_5) ?_
    refine wp_dup_rv dX4_passWeek_54 ?_
    refine wp_getI fX4_79 dX4_passWeek_55 kd_4 rfl ?_
    refine wp_iconst (v := 1) dX4_passWeek_58 rfl ?_
    refine wp_iadd dX4_passWeek_59 ?_
    refine wp_putI fX4_79 dX4_passWeek_60 kd_4 rfl rfl ?_
    refine wp_iconst (v := 0) dX4_passWeek_63 rfl ?_
    refine wp_istore_2 dX4_passWeek_64 (Nat.le_of_ble_eq_true rfl) rfl ?_
    refine wp_iload_1 dX4_passWeek_65 ?_
    refine wp_if_eq (tgt := 88) dX4_passWeek_66 rfl (fun c66 => ?_) (fun c66 => absurd (rfl) c66)
    refine wp_vret dX4_passWeek_88 rfl rfl ?_
    refine Qv hQ ?_
    first
      | (rw [pwk, if_pos c41]; done)
      | (rw [pwk, if_neg c41]; done)
  · refine wp_iconst (v := 1) dX4_passWeek_44 rfl ?_
    refine wp_goto (tgt := 49) dX4_passWeek_45 rfl ?_
    refine wp_istore_1 dX4_passWeek_49 (Nat.le_of_ble_eq_true rfl) rfl ?_
    refine wp_rload_0 dX4_passWeek_50 ?_
    refine wp_getR (t := 4) fX4_31 dX4_passWeek_51 kd_1 rfl (rf_1_5) ?_
    refine wp_dup_rv dX4_passWeek_54 ?_
    refine wp_getI fX4_79 dX4_passWeek_55 kd_4 rfl ?_
    refine wp_iconst (v := 1) dX4_passWeek_58 rfl ?_
    refine wp_iadd dX4_passWeek_59 ?_
    refine wp_putI fX4_79 dX4_passWeek_60 kd_4 rfl rfl ?_
    refine wp_iconst (v := 0) dX4_passWeek_63 rfl ?_
    refine wp_istore_2 dX4_passWeek_64 (Nat.le_of_ble_eq_true rfl) rfl ?_
    refine l_X4_passWeek2 (M := sI (vAll M (g - 1)) 4 4 ((vAll M (g - 1)).1 4 4 + 1)) (g := g) (show (vAll M (g - 1)).1 1 2 = nI g by rw [vAll_fr M (by decide)]; exact hg) h6 ?_ (g - 1) 0 (by omega)
    refine wp_vret dX4_passWeek_88 rfl rfl ?_
    refine Qv hQ ?_
    first
      | (rw [pwk, if_pos c41]; done)
      | (rw [pwk, if_neg c41]; done)
def dv (M : MM) : Int32 := (M.1 4 5 * 1103515245 + 12345) &&& 2147483647
def dv100 (M : MM) : Int32 := dv M / 65536 - dv M / 65536 / 100 * 100
def blw (M : MM) : Nat → MM × Int32
  | 0 => (M, 0)
  | j + 1 => if (blw M j).1.1 5 j < 12 then blw M j else if (drw (blw M j).1).1 5 j ≤ dv100 (blw M j).1 then (drw (blw M j).1, (blw M j).2) else (clp (drw (blw M j).1) j, (blw M j).2 + 1)
theorem blw_fr (M : MM) {k : Nat} (h4 : k ≠ 4) (h5 : k ≠ 5) (h6 : k ≠ 6) : ∀ j, (blw M j).1.1 k = M.1 k
  | 0 => rfl
  | j + 1 => by
    have ih := blw_fr M h4 h5 h6 j
    rw [blw]
    split
    · exact ih
    · split
      · simp [drw, sI, h4, ih]
      · simp [clp, var, drw, sI, h4, h5, h6, ih]
set_option maxRecDepth 100000 in
set_option maxHeartbeats 4000000 in
theorem l_X4_blow {κ : KX} {M : MM} {Q : Option Value → va_W → Prop} {g : Nat} (hg : M.1 1 2 = nI g) (h6 : g ≤ 6) (hx : WP κ (4, 0, 0) mX4_blow 63 [some (rv κ 1), some (.int (blw M ((g - 1))).2), some (.int (nI ((g - 1))))] [] (wM κ ((blw M ((g - 1))).1)) (0, 0) Q) : ∀ n j, j + n = (g - 1) → WP κ (4, 0, 0) mX4_blow 4 [some (rv κ 1), some (.int (blw M j).2), some (.int (nI j))] [] (wM κ ((blw M j).1)) (0, 0) Q := by
  intro n
  induction n with
  | zero =>
    intro j hn
    have hn : j = (g - 1) := hn
    refine wp_iload_2 dX4_blow_4 ?_
    refine wp_rload_0 dX4_blow_5 ?_
    refine wp_callV_0 kX4_62 dX4_blow_6 kd_1 rfl (c_X4_walls (g := g) (by rw [blw_fr M (by decide) (by decide) (by decide)]; exact hg) h6 ?_) ⟨Nat.le_of_ble_eq_true rfl, Nat.le_of_ble_eq_true rfl, Nat.le_of_ble_eq_true rfl⟩ (Nat.le_of_ble_eq_true rfl)
    refine wp_icmp_ge (tgt := 63) dX4_blow_9 rfl (fun c9 => ?_) (fun c9 => absurd (nI_le (by omega) (by omega)) c9)
    subst hn
    exact hx
  | succ n ih =>
    intro j hn
    refine wp_iload_2 dX4_blow_4 ?_
    refine wp_rload_0 dX4_blow_5 ?_
    refine wp_callV_0 kX4_62 dX4_blow_6 kd_1 rfl (c_X4_walls (g := g) (by rw [blw_fr M (by decide) (by decide) (by decide)]; exact hg) h6 ?_) ⟨Nat.le_of_ble_eq_true rfl, Nat.le_of_ble_eq_true rfl, Nat.le_of_ble_eq_true rfl⟩ (Nat.le_of_ble_eq_true rfl)
    refine wp_icmp_ge (tgt := 63) dX4_blow_9 rfl (fun c9 => absurd c9 (nI_ge (by omega) (by omega))) (fun c9 => ?_)
    refine wp_rload_0 dX4_blow_12 ?_
    refine wp_getR (t := 4) fX4_31 dX4_blow_13 kd_1 rfl (rf_1_5) ?_
    refine wp_getR (t := 5) fX4_93 dX4_blow_16 kd_4 rfl (rf_4_0) ?_
    refine wp_iload_2 dX4_blow_19 ?_
    refine wp_ald (j := j) dX4_blow_20 ar_5 (rfl) (by omega) ?_
    refine wp_bipush (v := 12) dX4_blow_21 rfl ?_
    refine wp_icmp_lt (tgt := 57) dX4_blow_23 rfl (fun c23 => ?_) (fun c23 => ?_)
    · refine wp_iinc_2 (v := nI (j + 1)) dX4_blow_57 (nI_inc _) (Nat.le_of_ble_eq_true rfl) rfl ?_
      refine wp_goto (tgt := 4) dX4_blow_60 rfl ?_
      have h := ih (j + 1) (by omega)
      first
        | (rw [show blw M (j + 1) = blw M j from if_pos c23] at h; exact h)
        | (rw [show blw M (j + 1) = (drw (blw M j).1, (blw M j).2) from (if_neg c23).trans (if_pos c45)] at h; exact h)
        | (rw [show blw M (j + 1) = (clp (drw (blw M j).1) j, (blw M j).2 + 1) from (if_neg c23).trans (if_neg c45)] at h; exact h)
    · refine wp_rload_0 dX4_blow_26 ?_
      refine wp_callV_0 kX4_124 dX4_blow_27 kd_1 rfl (c_X4_drawNext ?_) ⟨Nat.le_of_ble_eq_true rfl, Nat.le_of_ble_eq_true rfl, Nat.le_of_ble_eq_true rfl⟩ (Nat.le_of_ble_eq_true rfl)
      refine wp_ldc nX4_127 dX4_blow_30 ?_
      refine wp_idiv dX4_blow_32 (by decide) ?_
      refine wp_bipush (v := 100) dX4_blow_33 rfl ?_
      refine wp_irem dX4_blow_35 (by decide) ?_
      refine wp_rload_0 dX4_blow_36 ?_
      refine wp_getR (t := 4) fX4_31 dX4_blow_37 kd_1 rfl (rf_1_5) ?_
      refine wp_getR (t := 5) fX4_93 dX4_blow_40 kd_4 rfl (rf_4_0) ?_
      refine wp_iload_2 dX4_blow_43 ?_
      refine wp_ald (j := j) dX4_blow_44 ar_5 (rfl) (by omega) ?_
      refine wp_icmp_ge (tgt := 57) dX4_blow_45 rfl (fun c45 => ?_) (fun c45 => ?_)
      · refine wp_iinc_2 (v := nI (j + 1)) dX4_blow_57 (nI_inc _) (Nat.le_of_ble_eq_true rfl) rfl ?_
        refine wp_goto (tgt := 4) dX4_blow_60 rfl ?_
        have h := ih (j + 1) (by omega)
        first
          | (rw [show blw M (j + 1) = blw M j from if_pos c23] at h; exact h)
          | (rw [show blw M (j + 1) = (drw (blw M j).1, (blw M j).2) from (if_neg c23).trans (if_pos c45)] at h; exact h)
          | (rw [show blw M (j + 1) = (clp (drw (blw M j).1) j, (blw M j).2 + 1) from (if_neg c23).trans (if_neg c45)] at h; exact h)
      · refine wp_rload_0 dX4_blow_48 ?_
        refine wp_iload_2 dX4_blow_49 ?_
        refine wp_callV_1 kX4_128 dX4_blow_50 kd_1 rfl (c_X4_collapse (by omega) ?_) ⟨Nat.le_of_ble_eq_true rfl, Nat.le_of_ble_eq_true rfl, Nat.le_of_ble_eq_true rfl⟩ (Nat.le_of_ble_eq_true rfl)
        refine wp_pop_int dX4_blow_53 ?_
        refine wp_iinc_1 dX4_blow_54 rfl (Nat.le_of_ble_eq_true rfl) rfl ?_
        refine wp_iinc_2 (v := nI (j + 1)) dX4_blow_57 (nI_inc _) (Nat.le_of_ble_eq_true rfl) rfl ?_
        refine wp_goto (tgt := 4) dX4_blow_60 rfl ?_
        have h := ih (j + 1) (by omega)
        first
          | (rw [show blw M (j + 1) = blw M j from if_pos c23] at h; exact h)
          | (rw [show blw M (j + 1) = (drw (blw M j).1, (blw M j).2) from (if_neg c23).trans (if_pos c45)] at h; exact h)
          | (rw [show blw M (j + 1) = (clp (drw (blw M j).1) j, (blw M j).2 + 1) from (if_neg c23).trans (if_neg c45)] at h; exact h)
set_option maxRecDepth 100000 in
set_option maxHeartbeats 4000000 in
theorem c_X4_blow {κ : KX} {M : MM} {Q : Option Value → va_W → Prop} {g : Nat} (hg : M.1 1 2 = nI g) (h6 : g ≤ 6) (hQ : Q (some (.int (blw M (g - 1)).2)) (wM κ ((blw M (g - 1)).1))) : CT κ (4, 0, 0) mX4_blow [rv κ 1] (wM κ M) Q := by
  refine CT.of okX4_blow [some (rv κ 1), none, none] (Nat.le_of_ble_eq_true rfl) rfl ?_
  refine wp_iconst (v := 0) dX4_blow_0 rfl ?_
  refine wp_istore_1 dX4_blow_1 (Nat.le_of_ble_eq_true rfl) rfl ?_
  refine wp_iconst (v := 0) dX4_blow_2 rfl ?_
  refine wp_istore_2 dX4_blow_3 (Nat.le_of_ble_eq_true rfl) rfl ?_
  refine l_X4_blow hg h6 ?_ (g - 1) 0 (by omega)
  refine wp_iload_1 dX4_blow_63 ?_
  refine wp_iret dX4_blow_64 rfl rfl ?_
  exact hQ
def opn (M : MM) : Nat → Int32
  | 0 => 0
  | j + 1 => if wta M j = 0 then opn M j ||| ((1 : Int32) <<< (nI j &&& 31)) else opn M j
set_option maxRecDepth 100000 in
set_option maxHeartbeats 4000000 in
theorem l_X4_openToApology {κ : KX} {M : MM} {Q : Option Value → va_W → Prop} {g : Nat} (hg : M.1 1 2 = nI g) (h6 : g ≤ 6) (hx : WP κ (2, 0, 0) mX4_openToApology 35 [some (rv κ 1), some (.int (opn M ((g - 1)))), some (.int (nI ((g - 1))))] [] (wM κ (M)) (0, 0) Q) : ∀ n j, j + n = (g - 1) → WP κ (2, 0, 0) mX4_openToApology 4 [some (rv κ 1), some (.int (opn M j)), some (.int (nI j))] [] (wM κ (M)) (0, 0) Q := by
  intro n
  induction n with
  | zero =>
    intro j hn
    have hn : j = (g - 1) := hn
    refine wp_iload_2 dX4_openToApology_4 ?_
    refine wp_rload_0 dX4_openToApology_5 ?_
    refine wp_callV_0 kX4_62 dX4_openToApology_6 kd_1 rfl (c_X4_walls hg h6 ?_) ⟨Nat.le_of_ble_eq_true rfl, Nat.le_of_ble_eq_true rfl, Nat.le_of_ble_eq_true rfl⟩ (Nat.le_of_ble_eq_true rfl)
    refine wp_icmp_ge (tgt := 35) dX4_openToApology_9 rfl (fun c9 => ?_) (fun c9 => absurd (nI_le (by omega) (by omega)) c9)
    subst hn
    exact hx
  | succ n ih =>
    intro j hn
    refine wp_iload_2 dX4_openToApology_4 ?_
    refine wp_rload_0 dX4_openToApology_5 ?_
    refine wp_callV_0 kX4_62 dX4_openToApology_6 kd_1 rfl (c_X4_walls hg h6 ?_) ⟨Nat.le_of_ble_eq_true rfl, Nat.le_of_ble_eq_true rfl, Nat.le_of_ble_eq_true rfl⟩ (Nat.le_of_ble_eq_true rfl)
    refine wp_icmp_ge (tgt := 35) dX4_openToApology_9 rfl (fun c9 => absurd c9 (nI_ge (by omega) (by omega))) (fun c9 => ?_)
    refine wp_rload_0 dX4_openToApology_12 ?_
    refine wp_getR (t := 4) fX4_31 dX4_openToApology_13 kd_1 rfl (rf_1_5) ?_
    refine wp_iload_2 dX4_openToApology_16 ?_
    refine wp_callV_1 kX4_105 dX4_openToApology_17 kd_4 rfl (c_X3_weeksToApology (by omega) ?_) ⟨Nat.le_of_ble_eq_true rfl, Nat.le_of_ble_eq_true rfl, Nat.le_of_ble_eq_true rfl⟩ (Nat.le_of_ble_eq_true rfl)
    refine wp_if_ne (tgt := 29) dX4_openToApology_20 rfl (fun c20 => ?_) (fun c20 => ?_)
    · refine wp_iinc_2 (v := nI (j + 1)) dX4_openToApology_29 (nI_inc _) (Nat.le_of_ble_eq_true rfl) rfl ?_
      refine wp_goto (tgt := 4) dX4_openToApology_32 rfl ?_
      have h := ih (j + 1) (by omega)
      first
        | (rw [show opn M (j + 1) = _ from if_pos c20] at h; exact h)
        | (rw [show opn M (j + 1) = _ from if_neg c20] at h; exact h)
    · refine wp_iload_1 dX4_openToApology_23 ?_
      refine wp_iconst (v := 1) dX4_openToApology_24 rfl ?_
      refine wp_iload_2 dX4_openToApology_25 ?_
      refine wp_ishl dX4_openToApology_26 ?_
      refine wp_ior dX4_openToApology_27 ?_
      refine wp_istore_1 dX4_openToApology_28 (Nat.le_of_ble_eq_true rfl) rfl ?_
      refine wp_iinc_2 (v := nI (j + 1)) dX4_openToApology_29 (nI_inc _) (Nat.le_of_ble_eq_true rfl) rfl ?_
      refine wp_goto (tgt := 4) dX4_openToApology_32 rfl ?_
      have h := ih (j + 1) (by omega)
      first
        | (rw [show opn M (j + 1) = _ from if_pos c20] at h; exact h)
        | (rw [show opn M (j + 1) = _ from if_neg c20] at h; exact h)
set_option maxRecDepth 100000 in
set_option maxHeartbeats 4000000 in
theorem c_X4_openToApology {κ : KX} {M : MM} {Q : Option Value → va_W → Prop} {g : Nat} (hg : M.1 1 2 = nI g) (h6 : g ≤ 6) (hQ : Q (some (.int (opn M (g - 1)))) (wM κ (M))) : CT κ (2, 0, 0) mX4_openToApology [rv κ 1] (wM κ M) Q := by
  refine CT.of okX4_openToApology [some (rv κ 1), none, none] (Nat.le_of_ble_eq_true rfl) rfl ?_
  refine wp_iconst (v := 0) dX4_openToApology_0 rfl ?_
  refine wp_istore_1 dX4_openToApology_1 (Nat.le_of_ble_eq_true rfl) rfl ?_
  refine wp_iconst (v := 0) dX4_openToApology_2 rfl ?_
  refine wp_istore_2 dX4_openToApology_3 (Nat.le_of_ble_eq_true rfl) rfl ?_
  refine l_X4_openToApology hg h6 ?_ (g - 1) 0 (by omega)
  refine wp_iload_1 dX4_openToApology_35 ?_
  refine wp_iret dX4_openToApology_36 rfl rfl ?_
  exact hQ
def sdn (M : MM) : Nat → Int32 → Int32
  | 0, a => a
  | n + 1, a => if 5 ≤ M.1 5 n then a else sdn M n (a ||| ((1 : Int32) <<< (nI n &&& 31)))
def sup (M : MM) : Nat → Nat → Int32 → Int32
  | 0, _, a => a
  | n + 1, j, a => if 5 ≤ M.1 5 (j - 1) then a else sup M n (j + 1) (a ||| ((1 : Int32) <<< (nI j &&& 31)))
theorem nI_sub1 {g : Nat} (h : 1 ≤ g) : nI g - 1 = nI (g - 1) := by
  obtain ⟨k, rfl⟩ : ∃ k, g = k + 1 := ⟨g - 1, by omega⟩
  exact nI_pred k
set_option maxRecDepth 100000 in
set_option maxHeartbeats 4000000 in
theorem l_X4_inSight2 {κ : KX} {M : MM} {Q : Option Value → va_W → Prop} {g : Nat} {z : Int32} (hg : M.1 1 2 = nI g) (h6 : g ≤ 6) : ∀ n j a, j + n = g → 1 ≤ j → Q (some (.int (sup M n j a))) (wM κ M) → WP κ (0, 0, 0) mX4_inSight 39 [some (rv κ 1), some (.int z), some (.int a), some (.int (nI j))] [] (wM κ M) (0, 0) Q := by
  intro n
  induction n with
  | zero =>
    intro j a hn h1 hQ
    refine wp_iload_3 dX4_inSight_39 ?_
    refine wp_rload_0 dX4_inSight_40 ?_
    refine wp_getI fX4_18 dX4_inSight_41 kd_1 rfl ?_
    rw [hg]
    refine wp_icmp_ge (tgt := 74) dX4_inSight_44 rfl (fun c44 => ?_) (fun c44 => absurd (nI_le (by omega) (by omega)) c44)
    refine wp_iload_2 dX4_inSight_74 ?_
    refine wp_iret dX4_inSight_75 rfl rfl ?_
    exact hQ
  | succ n ih =>
    intro j a hn h1 hQ
    refine wp_iload_3 dX4_inSight_39 ?_
    refine wp_rload_0 dX4_inSight_40 ?_
    refine wp_getI fX4_18 dX4_inSight_41 kd_1 rfl ?_
    rw [hg]
    refine wp_icmp_ge (tgt := 74) dX4_inSight_44 rfl (fun c44 => absurd c44 (nI_ge (by omega) (by omega))) (fun c44 => ?_)
    refine wp_rload_0 dX4_inSight_47 ?_
    refine wp_getR (t := 4) fX4_31 dX4_inSight_48 kd_1 rfl (rf_1_5) ?_
    refine wp_getR (t := 5) fX4_93 dX4_inSight_51 kd_4 rfl (rf_4_0) ?_
    refine wp_iload_3 dX4_inSight_54 ?_
    refine wp_iconst (v := 1) dX4_inSight_55 rfl ?_
    refine wp_isub dX4_inSight_56 ?_
    refine wp_ald (j := (j - 1)) dX4_inSight_57 ar_5 (nI_sub1 h1) (by omega) ?_
    refine wp_iconst (v := 5) dX4_inSight_58 rfl ?_
    refine wp_icmp_ge (tgt := 74) dX4_inSight_59 rfl (fun c59 => ?_) (fun c59 => ?_)
    · refine wp_iload_2 dX4_inSight_74 ?_
      refine wp_iret dX4_inSight_75 rfl rfl ?_
      exact Qe hQ (by rw [sup, if_pos c59]) rfl
    · refine wp_iload_2 dX4_inSight_62 ?_
      refine wp_iconst (v := 1) dX4_inSight_63 rfl ?_
      refine wp_iload_3 dX4_inSight_64 ?_
      refine wp_ishl dX4_inSight_65 ?_
      refine wp_ior dX4_inSight_66 ?_
      refine wp_istore_2 dX4_inSight_67 (Nat.le_of_ble_eq_true rfl) rfl ?_
      refine wp_iinc_3 (v := nI (j + 1)) dX4_inSight_68 (nI_inc _) (Nat.le_of_ble_eq_true rfl) rfl ?_
      refine wp_goto (tgt := 39) dX4_inSight_71 rfl ?_
      exact ih (j + 1) _ (by omega) (by omega) (Qe hQ (by rw [sup, if_neg c59]) rfl)
set_option maxRecDepth 100000 in
set_option maxHeartbeats 4000000 in
theorem l_X4_inSight1 {κ : KX} {M : MM} {Q : Option Value → va_W → Prop} {g z : Nat} (hg : M.1 1 2 = nI g) (h6 : g ≤ 6) (hz2 : z < g) : ∀ n a, n ≤ 5 → Q (some (.int (sup M (g - (z + 1)) (z + 1) (sdn M n a)))) (wM κ M) → WP κ (0, 0, 0) mX4_inSight 6 [some (rv κ 1), some (.int (nI z)), some (.int a), some (.int (nI n - 1))] [] (wM κ M) (0, 0) Q := by
  intro n
  induction n with
  | zero =>
    intro a hn hQ
    refine wp_iload_3 dX4_inSight_6 ?_
    refine wp_if_lt (tgt := 35) dX4_inSight_7 rfl (fun c7 => ?_) (fun c7 => absurd (by decide) c7)
    refine wp_iload_1 dX4_inSight_35 ?_
    refine wp_iconst (v := 1) dX4_inSight_36 rfl ?_
    refine wp_iadd dX4_inSight_37 ?_
    rw [show nI z + 1 = nI (z + 1) from nI_1 z]
    refine wp_istore_3 dX4_inSight_38 (Nat.le_of_ble_eq_true rfl) rfl ?_
    refine l_X4_inSight2 (g := g) hg h6 (g - (z + 1)) (z + 1) _ (by omega) (by omega) ?_
    exact hQ
  | succ n ih =>
    intro a hn hQ
    rw [nI_pred n]
    refine wp_iload_3 dX4_inSight_6 ?_
    refine wp_if_lt (tgt := 35) dX4_inSight_7 rfl (fun c7 => absurd c7 (nI_pos (by omega))) (fun c7 => ?_)
    refine wp_rload_0 dX4_inSight_10 ?_
    refine wp_getR (t := 4) fX4_31 dX4_inSight_11 kd_1 rfl (rf_1_5) ?_
    refine wp_getR (t := 5) fX4_93 dX4_inSight_14 kd_4 rfl (rf_4_0) ?_
    refine wp_iload_3 dX4_inSight_17 ?_
    refine wp_ald (j := n) dX4_inSight_18 ar_5 (rfl) (by omega) ?_
    refine wp_iconst (v := 5) dX4_inSight_19 rfl ?_
    refine wp_icmp_ge (tgt := 35) dX4_inSight_20 rfl (fun c20 => ?_) (fun c20 => ?_)
    · refine wp_iload_1 dX4_inSight_35 ?_
      refine wp_iconst (v := 1) dX4_inSight_36 rfl ?_
      refine wp_iadd dX4_inSight_37 ?_
      rw [show nI z + 1 = nI (z + 1) from nI_1 z]
      refine wp_istore_3 dX4_inSight_38 (Nat.le_of_ble_eq_true rfl) rfl ?_
      refine l_X4_inSight2 (g := g) hg h6 (g - (z + 1)) (z + 1) _ (by omega) (by omega) ?_
      exact Qe hQ (by rw [sdn, if_pos c20]) rfl
    · refine wp_iload_2 dX4_inSight_23 ?_
      refine wp_iconst (v := 1) dX4_inSight_24 rfl ?_
      refine wp_iload_3 dX4_inSight_25 ?_
      refine wp_ishl dX4_inSight_26 ?_
      refine wp_ior dX4_inSight_27 ?_
      refine wp_istore_2 dX4_inSight_28 (Nat.le_of_ble_eq_true rfl) rfl ?_
      refine wp_iinc_3 (v := nI n - 1) dX4_inSight_29 (nI_decr n) (Nat.le_of_ble_eq_true rfl) rfl ?_
      refine wp_goto (tgt := 6) dX4_inSight_32 rfl ?_
      exact ih _ (by omega) (Qe hQ (by rw [sdn, if_neg c20]) rfl)
set_option maxRecDepth 100000 in
set_option maxHeartbeats 4000000 in
theorem c_X4_inSight {κ : KX} {M : MM} {Q : Option Value → va_W → Prop} {g z : Nat} (hg : M.1 1 2 = nI g) (h6 : g ≤ 6) (hz2 : z < g) (hQ : Q (some (.int (sup M (g - (z + 1)) (z + 1) (sdn M z 0)))) (wM κ (M))) : CT κ (0, 0, 0) mX4_inSight [rv κ 1, .int (nI z)] (wM κ M) Q := by
  refine CT.of okX4_inSight [some (rv κ 1), some (.int (nI z)), none, none] (Nat.le_of_ble_eq_true rfl) rfl ?_
  refine wp_iconst (v := 0) dX4_inSight_0 rfl ?_
  refine wp_istore_2 dX4_inSight_1 (Nat.le_of_ble_eq_true rfl) rfl ?_
  refine wp_iload_1 dX4_inSight_2 ?_
  refine wp_iconst (v := 1) dX4_inSight_3 rfl ?_
  refine wp_isub dX4_inSight_4 ?_
  refine wp_istore_3 dX4_inSight_5 (Nat.le_of_ble_eq_true rfl) rfl ?_
  exact l_X4_inSight1 hg h6 hz2 z 0 (by omega) hQ
def setl (g : Nat) (M : MM) (kq no : Int32) : MM := fgt (if g = 0 then sI (sI (sI (sI M 2 g kq) 3 g no) 8 g 0) 1 2 (nI g + 1) else clr (sI (sI (sI (sI M 2 g kq) 3 g no) 8 g 0) 1 2 (nI g + 1)) (g - 1))
theorem nI_le0 {g : Nat} (h : nI g ≤ 0) (hb : g < 1000) : g = 0 := by
  rcases Nat.eq_zero_or_pos g with e | e
  · exact e
  · exact absurd h (nI_nle e (by omega))
set_option maxRecDepth 100000 in
set_option maxHeartbeats 4000000 in
theorem c_X4_settle {κ : KX} {M : MM} {Q : Option Value → va_W → Prop} {g : Nat} {kq no : Int32} (hg : M.1 1 2 = nI g) (h6 : g < 6) (hQ : Q (some (.int (nI g))) (wM κ (setl g M kq no))) : CT κ (1, 0, 0) mX4_settle [rv κ 1, .int kq, .int no] (wM κ M) Q := by
  refine CT.of okX4_settle [some (rv κ 1), some (.int kq), some (.int no), none] (Nat.le_of_ble_eq_true rfl) rfl ?_
  refine wp_rload_0 dX4_settle_0 ?_
  refine wp_getI fX4_18 dX4_settle_1 kd_1 rfl ?_
  rw [hg]
  refine wp_istore_3 dX4_settle_4 (Nat.le_of_ble_eq_true rfl) rfl ?_
  refine wp_rload_0 dX4_settle_5 ?_
  refine wp_getR (t := 2) fX4_9 dX4_settle_6 kd_1 rfl (rf_1_0) ?_
  refine wp_iload_3 dX4_settle_9 ?_
  refine wp_iload_1 dX4_settle_10 ?_
  refine wp_ast (j := g) dX4_settle_11 ar_2 (rfl) (by omega) ?_
  refine wp_rload_0 dX4_settle_12 ?_
  refine wp_getR (t := 3) fX4_15 dX4_settle_13 kd_1 rfl (rf_1_1) ?_
  refine wp_iload_3 dX4_settle_16 ?_
  refine wp_iload_2 dX4_settle_17 ?_
  refine wp_ast (j := g) dX4_settle_18 ar_3 (rfl) (by omega) ?_
  refine wp_rload_0 dX4_settle_19 ?_
  refine wp_getR (t := 4) fX4_31 dX4_settle_20 kd_1 rfl (rf_1_5) ?_
  refine wp_getR (t := 8) fX4_66 dX4_settle_23 kd_4 rfl (rf_4_3) ?_
  refine wp_iload_3 dX4_settle_26 ?_
  refine wp_iconst (v := 0) dX4_settle_27 rfl ?_
  refine wp_ast (j := g) dX4_settle_28 ar_8 (rfl) (by omega) ?_
  refine wp_rload_0 dX4_settle_29 ?_
  refine wp_iload_3 dX4_settle_30 ?_
  refine wp_iconst (v := 1) dX4_settle_31 rfl ?_
  refine wp_iadd dX4_settle_32 ?_
  refine wp_putI fX4_18 dX4_settle_33 kd_1 rfl rfl ?_
  refine wp_iload_3 dX4_settle_36 ?_
  refine wp_if_le (tgt := 50) dX4_settle_37 rfl (fun c37 => ?_) (fun c37 => ?_)
  · refine wp_rload_0 dX4_settle_50 ?_
    refine wp_getR (t := 9) fX4_38 dX4_settle_51 kd_1 rfl (rf_1_6) ?_
    refine wp_callV_0 kX4_73 dX4_settle_54 kd_9 rfl (c_X1_forget ?_) ⟨Nat.le_of_ble_eq_true rfl, Nat.le_of_ble_eq_true rfl, Nat.le_of_ble_eq_true rfl⟩ (Nat.le_of_ble_eq_true rfl)
    refine wp_iload_3 dX4_settle_57 ?_
    refine wp_iret dX4_settle_58 rfl rfl ?_
    refine Qe hQ rfl ?_
    first
      | (rw [setl, if_pos (nI_le0 c37 (by omega))]; done)
      | (rw [setl, if_neg (by omega)]; done)
  · refine wp_rload_0 dX4_settle_40 ?_
    refine wp_getR (t := 4) fX4_31 dX4_settle_41 kd_1 rfl (rf_1_5) ?_
    refine wp_iload_3 dX4_settle_44 ?_
    refine wp_iconst (v := 1) dX4_settle_45 rfl ?_
    refine wp_isub dX4_settle_46 ?_
    have hp : 1 ≤ g := by
      rcases Nat.eq_zero_or_pos g with e | e
      · exact absurd (by rw [e]; decide) c37
      · exact e
    rw [nI_sub1 hp]
    refine wp_callV_1 kX4_69 dX4_settle_47 kd_4 rfl (c_X3_clearWall (by omega) ?_) ⟨Nat.le_of_ble_eq_true rfl, Nat.le_of_ble_eq_true rfl, Nat.le_of_ble_eq_true rfl⟩ (Nat.le_of_ble_eq_true rfl)
    refine wp_rload_0 dX4_settle_50 ?_
    refine wp_getR (t := 9) fX4_38 dX4_settle_51 kd_1 rfl (rf_1_6) ?_
    refine wp_callV_0 kX4_73 dX4_settle_54 kd_9 rfl (c_X1_forget ?_) ⟨Nat.le_of_ble_eq_true rfl, Nat.le_of_ble_eq_true rfl, Nat.le_of_ble_eq_true rfl⟩ (Nat.le_of_ble_eq_true rfl)
    refine wp_iload_3 dX4_settle_57 ?_
    refine wp_iret dX4_settle_58 rfl rfl ?_
    refine Qe hQ rfl ?_
    first
      | (rw [setl, if_pos (nI_le0 c37 (by omega))]; done)
      | (rw [setl, if_neg (by omega)]; done)
