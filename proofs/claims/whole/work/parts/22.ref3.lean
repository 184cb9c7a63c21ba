/-! the reference: what is done -/
def shF (h : Nat → Int32) : Nat → Nat → Int32
  | 0 => h
  | j + 1 => upd (shF h j) (39 + j) (shF h j (39 + j + 23))
theorem shF_lo (h : Nat → Int32) {a : Nat} (ha : a < 39) : ∀ j, shF h j a = h a
  | 0 => rfl
  | j + 1 => by
    have e : a ≠ 39 + j := by omega
    simp [shF, upd, e, shF_lo h ha j]
def rmZ (u : Nat) (f : Nat → Int32) : Nat → Int32 := if u = 8 then upd (shF f 161) 38 (nI 7) else f
def rmU (u : Nat) : Nat := if u = 8 then 7 else u
def rm1 (u : Nat) (f : Nat → Int32) : Nat → Int32 := cpS (rmZ u f) 16 (39 + 23 * rmU u) 22
def rm2 (u : Nat) (f : Nat → Int32) : Nat → Int32 := upd (rm1 u f) (39 + 23 * rmU u + 22) (rm1 u f 3)
def rmF (u : Nat) (f : Nat → Int32) : Nat → Int32 := upd (rm2 u f) 38 (rm2 u f 38 + 1)
theorem rmZ_38 {u : Nat} {f : Nat → Int32} (hu : f 38 = nI u) : rmZ u f 38 = nI (rmU u) := by
  unfold rmZ rmU
  split
  · simp [upd]
  · exact hu
theorem rmU_le {u : Nat} (h : u ≤ 8) : rmU u ≤ 7 := by
  unfold rmU
  split <;> omega
theorem ix39 (v : Nat) : (39 : Int32) + 23 * nI v = nI (39 + 23 * v) := by
  have e : (23 : Int32) * nI v = nI (23 * v) := pk_mul 23 v
  rw [e]
  exact nI_add 39 (23 * v)
theorem cpS_out (h : Nat → Int32) (a b : Nat) {x : Nat} : ∀ m, (x < b ∨ b + m ≤ x) → cpS h a b m x = h x
  | 0, _ => rfl
  | m + 1, hx => by
    have e : x ≠ b + m := by omega
    simp [cpS, upd, e]
    exact cpS_out h a b m (by omega)
set_option maxRecDepth 100000 in
set_option maxHeartbeats 4000000 in
theorem l_X7_remember {κ : KX} {M : MM} {Q : Option Value → va_W → Prop} {f : Nat → Int32}  (hx : WP κ (1, 0, 0) mX7_remember 48 [some (rv κ 120), some (.int (nI 161))] [] (wM κ (rI M 121 (shF f 161))) (0, 0) Q) : ∀ n j, j + n = 161 → WP κ (1, 0, 0) mX7_remember 14 [some (rv κ 120), some (.int (nI j))] [] (wM κ (rI M 121 (shF f j))) (0, 0) Q := by
  intro n
  induction n with
  | zero =>
    intro j hn
    have hn : j = 161 := hn
    refine wp_iload_1 dX7_remember_14 ?_
    refine wp_sipush (v := 161) dX7_remember_15 rfl ?_
    refine wp_icmp_ge (tgt := 48) dX7_remember_18 rfl (fun c18 => ?_) (fun c18 => absurd (nI_le (a := 161) (by omega) (by omega)) c18)
    subst hn
    exact hx
  | succ n ih =>
    intro j hn
    refine wp_iload_1 dX7_remember_14 ?_
    refine wp_sipush (v := 161) dX7_remember_15 rfl ?_
    refine wp_icmp_ge (tgt := 48) dX7_remember_18 rfl (fun c18 => absurd c18 (nI_ge (b := 161) (by omega) (by omega))) (fun c18 => ?_)
    refine wp_rload_0 dX7_remember_21 ?_
    refine wp_getR (t := 121) fX7_7 dX7_remember_22 kd_120 rfl (rf_120_0) ?_
    refine wp_bipush (v := 39) dX7_remember_25 rfl ?_
    refine wp_iload_1 dX7_remember_27 ?_
    refine wp_iadd dX7_remember_28 ?_
    refine wp_rload_0 dX7_remember_29 ?_
    refine wp_getR (t := 121) fX7_7 dX7_remember_30 kd_120 rfl (rf_120_0) ?_
    refine wp_bipush (v := 39) dX7_remember_33 rfl ?_
    refine wp_iload_1 dX7_remember_35 ?_
    refine wp_iadd dX7_remember_36 ?_
    refine wp_bipush (v := 23) dX7_remember_37 rfl ?_
    refine wp_iadd dX7_remember_39 ?_
    refine wp_aldF (j := ((39 + j) + 23)) dX7_remember_40 ar_121 ((congr (congrArg HAdd.hAdd (nI_add _ _)) (rfl)).trans (nI_add _ _)) (by omega) ?_
    refine wp_astF (j := (39 + j)) dX7_remember_41 ar_121 (nI_add _ _) (by omega) ?_
    refine wp_iinc_1 (v := nI (j + 1)) dX7_remember_42 (nI_inc _) (Nat.le_of_ble_eq_true rfl) rfl ?_
    refine wp_goto (tgt := 14) dX7_remember_45 rfl ?_
    exact ih (j + 1) (by omega)
set_option maxRecDepth 100000 in
set_option maxHeartbeats 4000000 in
theorem x_X7_remember {κ : KX} {M : MM} {Q : Option Value → va_W → Prop} {f : Nat → Int32} {u : Nat} {x : Option Value} (hu : f 38 = nI u) (hu8 : u ≤ 8) (hQ : Q none (wM κ (rI M 121 (rmF u f)))) : WP κ (1, 0, 0) mX7_remember 59 [some (rv κ 120), x] [] (wM κ (rI M 121 (rmZ u f))) (0, 0) Q := by
  have hr := rmU_le hu8
  refine wp_bipush (v := 39) dX7_remember_59 rfl ?_
  refine wp_bipush (v := 23) dX7_remember_61 rfl ?_
  refine wp_rload_0 dX7_remember_63 ?_
  refine wp_getR (t := 121) fX7_7 dX7_remember_64 kd_120 rfl (rf_120_0) ?_
  refine wp_bipush (v := 38) dX7_remember_67 rfl ?_
  refine wp_aldF (j := 38) dX7_remember_69 ar_121 (rfl) (by omega) ?_
  rw [rmZ_38 hu]
  refine wp_imul dX7_remember_70 ?_
  refine wp_iadd dX7_remember_71 ?_
  rw [ix39]
  refine wp_istore_1 dX7_remember_72 (Nat.le_of_ble_eq_true rfl) rfl ?_
  refine wp_rload_0 dX7_remember_73 ?_
  refine wp_getR (t := 121) fX7_7 dX7_remember_74 kd_120 rfl (rf_120_0) ?_
  refine wp_bipush (v := 16) dX7_remember_77 rfl ?_
  refine wp_rload_0 dX7_remember_79 ?_
  refine wp_getR (t := 121) fX7_7 dX7_remember_80 kd_120 rfl (rf_120_0) ?_
  refine wp_iload_1 dX7_remember_83 ?_
  refine wp_bipush (v := 22) dX7_remember_84 rfl ?_
  refine wp_callS_5 kX7_139 dX7_remember_86 (c_X7_copiesS (k := 121) (a := 16) (b := (39 + 23 * rmU u)) (m := 22) ar_121 (by decide) (by omega) ?_) ⟨Nat.le_of_ble_eq_true rfl, Nat.le_of_ble_eq_true rfl, Nat.le_of_ble_eq_true rfl⟩ (Nat.le_of_ble_eq_true rfl)
  refine wp_rload_0 dX7_remember_89 ?_
  refine wp_getR (t := 121) fX7_7 dX7_remember_90 kd_120 rfl (rf_120_0) ?_
  refine wp_iload_1 dX7_remember_93 ?_
  refine wp_bipush (v := 22) dX7_remember_94 rfl ?_
  refine wp_iadd dX7_remember_96 ?_
  refine wp_rload_0 dX7_remember_97 ?_
  refine wp_getR (t := 121) fX7_7 dX7_remember_98 kd_120 rfl (rf_120_0) ?_
  refine wp_iconst (v := 3) dX7_remember_101 rfl ?_
  refine wp_aldF (j := 3) dX7_remember_102 ar_121 (rfl) (by omega) ?_
  refine wp_astF (j := ((39 + 23 * rmU u) + 22)) dX7_remember_103 ar_121 (nI_add _ _) (by omega) ?_
  refine wp_rload_0 dX7_remember_104 ?_
  refine wp_getR (t := 121) fX7_7 dX7_remember_105 kd_120 rfl (rf_120_0) ?_
  refine wp_bipush (v := 38) dX7_remember_108 rfl ?_
  refine wp_dup2_iv dX7_remember_110 ?_
  refine wp_aldF (j := 38) dX7_remember_111 ar_121 (rfl) (by omega) ?_
  refine wp_iconst (v := 1) dX7_remember_112 rfl ?_
  refine wp_iadd dX7_remember_113 ?_
  refine wp_astF (j := 38) dX7_remember_114 ar_121 (rfl) (by omega) ?_
  refine wp_vret dX7_remember_115 rfl rfl ?_
  exact hQ
theorem x_X7_rem2 {κ : KX} {M : MM} {Q : Option Value → va_W → Prop} {f : Nat → Int32} {u : Nat} {x : Option Value} (hu : f 38 = nI u) (hu8 : u ≤ 8) (hu0 : ¬ u = 8) (hQ : Q none (wM κ (rI M 121 (rmF u f)))) : WP κ (1, 0, 0) mX7_remember 59 [some (rv κ 120), x] [] (wM κ (rI M 121 f)) (0, 0) Q := by
  have e0 : rmZ u f = f := if_neg hu0
  have h9 := x_X7_remember (κ := κ) (M := M) (Q := Q) (f := f) (u := u) (x := x) hu hu8 hQ
  rw [e0] at h9
  exact h9
set_option maxRecDepth 100000 in
set_option maxHeartbeats 4000000 in
theorem c_X7_remember {κ : KX} {M : MM} {Q : Option Value → va_W → Prop} {f : Nat → Int32} {u : Nat} (hu : f 38 = nI u) (hu8 : u ≤ 8) (hQ : Q (none) (wM κ (rI M 121 (rmF u f)))) : CT κ (1, 0, 0) mX7_remember [rv κ 120] (wM κ (rI M 121 f)) Q := by
  refine CT.of okX7_remember [some (rv κ 120), none] (Nat.le_of_ble_eq_true rfl) rfl ?_
  refine wp_rload_0 dX7_remember_0 ?_
  refine wp_getR (t := 121) fX7_7 dX7_remember_1 kd_120 rfl (rf_120_0) ?_
  refine wp_bipush (v := 38) dX7_remember_4 rfl ?_
  refine wp_aldF (j := 38) dX7_remember_6 ar_121 (rfl) (by omega) ?_
  rw [hu]
  refine wp_bipush (v := 8) dX7_remember_7 rfl ?_
  refine wp_icmp_ne (tgt := 59) dX7_remember_9 rfl (fun c9 => ?_) (fun c9 => ?_)
  · have hu0 : ¬ u = 8 := fun e => c9 (by rw [e]; rfl)
    first
      | (rw [show upd (shF f 161) 38 (nI 7) = rmZ u f from (if_pos hu0).symm]; exact x_X7_remember hu hu8 hQ)
      | exact x_X7_rem2 hu hu8 hu0 hQ
  · have hu0 : u = 8 := (nI_eq (a := u) (b := 8) (by omega) (by decide)).mp c9
    refine wp_iconst (v := 0) dX7_remember_12 rfl ?_
    refine wp_istore_1 dX7_remember_13 (Nat.le_of_ble_eq_true rfl) rfl ?_
    refine l_X7_remember ?_ 161 0 (by omega)
    refine wp_rload_0 dX7_remember_48 ?_
    refine wp_getR (t := 121) fX7_7 dX7_remember_49 kd_120 rfl (rf_120_0) ?_
    refine wp_bipush (v := 38) dX7_remember_52 rfl ?_
    refine wp_dup2_iv dX7_remember_54 ?_
    refine wp_aldF (j := 38) dX7_remember_55 ar_121 (rfl) (by omega) ?_
    rw [shF_lo f (by decide), hu, hu0]
    refine wp_iconst (v := 1) dX7_remember_56 rfl ?_
    refine wp_isub dX7_remember_57 ?_
    rw [show nI 8 - 1 = nI 7 from nI_pred 7]
    refine wp_astF (j := 38) dX7_remember_58 ar_121 (rfl) (by omega) ?_
    first
      | (rw [show upd (shF f 161) 38 (nI 7) = rmZ u f from (if_pos hu0).symm]; exact x_X7_remember hu hu8 hQ)
      | exact x_X7_rem2 hu hu8 hu0 hQ
theorem rmF_lo (u : Nat) (f : Nat → Int32) {a : Nat} (ha : a < 38) : rmF u f a = f a := by
  have h0 : rmZ u f a = f a := by
    unfold rmZ
    split
    · have e : a ≠ 38 := by omega
      simp [upd, e, shF_lo f (show a < 39 by omega)]
    · rfl
  have h1 : rm1 u f a = f a := by rw [rm1, cpS_out _ _ _ _ (by omega)]; exact h0
  have e : a ≠ 38 := by omega
  have e2 : a ≠ 39 + 23 * rmU u + 22 := by omega
  simp [rmF, rm2, upd, e, e2, h1]
theorem rmF_38 {u : Nat} {f : Nat → Int32} (hu : f 38 = nI u) (hu8 : u ≤ 8) : rmF u f 38 = nI (nxU u) := by
  have h1 : rm1 u f 38 = nI (rmU u) := by rw [rm1, cpS_out _ _ _ _ (by omega)]; exact rmZ_38 hu
  have e2 : (38 : Nat) ≠ 39 + 23 * rmU u + 22 := by omega
  have h2 : rm2 u f 38 = nI (rmU u) := by simp [rm2, upd, e2, h1]
  rw [rmF]
  simp only [upd, if_true]
  rw [h2, nI_1]
  congr 1
  unfold rmU nxU
  split <;> split <;> omega
theorem gosF_fr (g : Nat) (h6 : g ≤ 6) (h : Nat → Int32) {a : Nat} (h3 : a ≠ 3) (ha : a < 16 ∨ 32 ≤ a) : (gosF g h).1 a = h a := by
  have hw : ∀ j, j ≤ 5 → gwF h j a = h a := by
    intro j
    induction j with
    | zero => intro _; rfl
    | succ j ih =>
      intro hj
      have e : a ≠ 27 + j := by omega
      simp [gwF, upd, e, ih (by omega)]
  have h1 : gw3 h g a = h a := by
    simp [gw3, upd, h3, hw (g - 1) (by omega)]
  have hm : ∀ (k : Nat → Int32) j, j ≤ 5 → (mch k j).1 a = k a := by
    intro k j
    induction j with
    | zero => intro _; rfl
    | succ j ih =>
      intro hj
      have e1 : a ≠ 16 + j := by omega
      have e2 : a ≠ 16 + j + 1 := by omega
      have e3 : a ≠ 22 + j := by omega
      show mcF (mch k j).1 j a = k a
      simp [mcF, upd, e1, e2, e3, ih (by omega)]
  unfold gosF
  split
  · rw [hm _ _ (by omega), h1]
  · exact h1
def wkF (g : Nat) : Nat → Nat → (Nat → Int32) → Nat → Int32
  | 0, _, f => f
  | n + 1, u, f => wkF g n (nxU u) (gosF g (rmF u f)).1
set_option maxRecDepth 100000 in
set_option maxHeartbeats 4000000 in
theorem l_X7_weeks {κ : KX} {M : MM} {Q : Option Value → va_W → Prop} {g m : Nat} (h6 : g ≤ 6) (hm : m < 1000) : ∀ n j u (f : Nat → Int32), j + n = m → f 0 = nI g → 0 < f 1 → f 38 = nI u → u ≤ 8 → Q (some (.int (smF (wkF g n u f) 22 5))) (wM κ (rI M 121 (wkF g n u f))) → WP κ (3, 0, 0) mX7_weeks 33 [some (rv κ 120), some (.int (nI m)), some (.int (nI j)), none] [] (wM κ (rI M 121 f)) (0, 0) Q := by
  intro n
  induction n with
  | zero =>
    intro j u f hn hg hy hu hu8 hQ
    refine wp_iload_2 dX7_weeks_33 ?_
    refine wp_iload_1 dX7_weeks_34 ?_
    refine wp_icmp_ge (tgt := 56) dX7_weeks_35 rfl (fun c35 => ?_) (fun c35 => absurd (nI_le (by omega) (by omega)) c35)
    refine wp_rload_0 dX7_weeks_56 ?_
    refine wp_getR (t := 121) fX7_7 dX7_weeks_57 kd_120 rfl (rf_120_0) ?_
    refine wp_callS_1 kX7_143 dX7_weeks_60 (c_X7_coursesOf ar_121 ?_) ⟨Nat.le_of_ble_eq_true rfl, Nat.le_of_ble_eq_true rfl, Nat.le_of_ble_eq_true rfl⟩ (Nat.le_of_ble_eq_true rfl)
    refine wp_iret dX7_weeks_63 rfl rfl ?_
    exact hQ
  | succ n ih =>
    intro j u f hn hg hy hu hu8 hQ
    refine wp_iload_2 dX7_weeks_33 ?_
    refine wp_iload_1 dX7_weeks_34 ?_
    refine wp_icmp_ge (tgt := 56) dX7_weeks_35 rfl (fun c35 => absurd c35 (nI_ge (by omega) (by omega))) (fun c35 => ?_)
    refine wp_rload_0 dX7_weeks_38 ?_
    refine wp_callV_0 kX7_153 dX7_weeks_39 kd_120 rfl (c_X7_remember (M := M) hu hu8 ?_) ⟨Nat.le_of_ble_eq_true rfl, Nat.le_of_ble_eq_true rfl, Nat.le_of_ble_eq_true rfl⟩ (Nat.le_of_ble_eq_true rfl)
    refine wp_rload_0 dX7_weeks_42 ?_
    refine wp_getR (t := 121) fX7_7 dX7_weeks_43 kd_120 rfl (rf_120_0) ?_
    refine wp_callS_1 kX7_156 dX7_weeks_46 (c_X7_goes (k := 121) (h := rmF u f) (g := g) ar_121 (by rw [rmF_lo _ _ (by decide)]; exact hg) h6 (by rw [rmF_lo _ _ (by decide)]; exact hy) ?_) ⟨Nat.le_of_ble_eq_true rfl, Nat.le_of_ble_eq_true rfl, Nat.le_of_ble_eq_true rfl⟩ (Nat.le_of_ble_eq_true rfl)
    refine wp_istore_3 dX7_weeks_49 (Nat.le_of_ble_eq_true rfl) rfl ?_
    refine wp_iinc_2 (v := nI (j + 1)) dX7_weeks_50 (nI_inc _) (Nat.le_of_ble_eq_true rfl) rfl ?_
    refine wp_goto (tgt := 33) dX7_weeks_53 rfl ?_
    refine wp_drop_3 ?_
    exact ih (j + 1) (nxU u) (gosF g (rmF u f)).1 (by omega) (by rw [gosF_fr g h6 _ (by decide) (by decide), rmF_lo _ _ (by decide)]; exact hg) (by rw [gosF_fr g h6 _ (by decide) (by decide), rmF_lo _ _ (by decide)]; exact hy) (by rw [gosF_fr g h6 _ (by decide) (by decide)]; exact rmF_38 hu hu8) nxU_le hQ
def rfF (f : Nat → Int32) (x : Int32) : Int32 := if wi x 1 52 = 0 then -1 else if f 3 + x ≤ 9999 then 0 else -3
def tWk (f : Nat → Int32) (g u : Nat) (x : Int32) : (Nat → Int32) × Int32 := if wi x 1 52 = 0 then (f, -1) else if f 3 + x ≤ 9999 then (wkF g (cl x) u f, smF (wkF g (cl x) u f) 22 5) else (f, -3)
set_option maxRecDepth 100000 in
set_option maxHeartbeats 4000000 in
theorem c_X7_weeks {κ : KX} {M : MM} {Q : Option Value → va_W → Prop} {f : Nat → Int32} {g u : Nat} {x : Int32} (hg : f 0 = nI g) (h6 : g ≤ 6) (hy : 0 < f 1) (hu : f 38 = nI u) (hu8 : u ≤ 8) (hQ : Q (some (.int (tWk f g u x).2)) (wM κ (rI M 121 (tWk f g u x).1))) : CT κ (3, 0, 0) mX7_weeks [rv κ 120, .int x] (wM κ (rI M 121 f)) Q := by
  refine CT.of okX7_weeks [some (rv κ 120), some (.int x), none, none] (Nat.le_of_ble_eq_true rfl) rfl ?_
  refine wp_iload_1 dX7_weeks_0 ?_
  refine wp_i2l dX7_weeks_1 ?_
  refine wp_lconst (v := 1) dX7_weeks_2 rfl ?_
  refine wp_ldc2 nX7_94 dX7_weeks_3 ?_
  refine wp_callS_3 kX7_43 dX7_weeks_6 (c_X7_in (lo := 1) (hi := 52) (by decide) (by decide) ?_) ⟨Nat.le_of_ble_eq_true rfl, Nat.le_of_ble_eq_true rfl, Nat.le_of_ble_eq_true rfl⟩ (Nat.le_of_ble_eq_true rfl)
  refine wp_if_ne (tgt := 14) dX7_weeks_9 rfl (fun c9 => ?_) (fun c9 => ?_)
  · obtain ⟨m, hm1, hm2, rfl⟩ := rng_of (a := 1) (b := 52) c9 (by decide) (by decide)
    rw [tWk, if_neg c9, cl_nI (by omega)] at hQ
    refine wp_rload_0 dX7_weeks_14 ?_
    refine wp_getR (t := 121) fX7_7 dX7_weeks_15 kd_120 rfl (rf_120_0) ?_
    refine wp_iconst (v := 3) dX7_weeks_18 rfl ?_
    refine wp_aldF (j := 3) dX7_weeks_19 ar_121 (rfl) (by omega) ?_
    refine wp_iload_1 dX7_weeks_20 ?_
    refine wp_iadd dX7_weeks_21 ?_
    refine wp_sipush (v := 9999) dX7_weeks_22 rfl ?_
    refine wp_icmp_le (tgt := 31) dX7_weeks_25 rfl (fun c25 => ?_) (fun c25 => ?_)
    · refine wp_iconst (v := 0) dX7_weeks_31 rfl ?_
      refine wp_istore_2 dX7_weeks_32 (Nat.le_of_ble_eq_true rfl) rfl ?_
      rw [if_pos c25] at hQ
      exact l_X7_weeks h6 (by omega) m 0 u f (by omega) hg hy hu hu8 hQ
    · refine wp_bipush (v := (-3)) dX7_weeks_28 rfl ?_
      refine wp_iret dX7_weeks_30 rfl rfl ?_
      rw [if_neg c25] at hQ
      exact hQ
  · refine wp_iconst (v := (-1)) dX7_weeks_12 rfl ?_
    refine wp_iret dX7_weeks_13 rfl rfl ?_
    rw [tWk, if_pos c9] at hQ
    exact hQ
def tSy (f : Nat → Int32) (g u : Nat) (x : Int32) : (Nat → Int32) × Int32 := if wi x 0 (nI (g - 1) - 1) = 0 then (f, -1) else if wtF f (cl x) ≤ 0 then (upd (sy0 (rmF u f) (cl x)) (32 + cl x) (sy0 (rmF u f) (cl x) 3), upd (sy0 (rmF u f) (cl x)) (32 + cl x) (sy0 (rmF u f) (cl x) 3) (27 + cl x)) else (f, -2)
set_option maxRecDepth 100000 in
set_option maxHeartbeats 4000000 in
theorem c_X7_sorry {κ : KX} {M : MM} {Q : Option Value → va_W → Prop} {f : Nat → Int32} {g u : Nat} {x : Int32} (hg : f 0 = nI g) (h6 : g ≤ 6) (hu : f 38 = nI u) (hu8 : u ≤ 8) (hQ : Q (some (.int (tSy f g u x).2)) (wM κ (rI M 121 (tSy f g u x).1))) : CT κ (2, 0, 0) mX7_sorry [rv κ 120, .int x] (wM κ (rI M 121 f)) Q := by
  refine CT.of okX7_sorry [some (rv κ 120), some (.int x)] (Nat.le_of_ble_eq_true rfl) rfl ?_
  refine wp_rload_0 dX7_sorry_0 ?_
  refine wp_iload_1 dX7_sorry_1 ?_
  refine wp_callV_1 kX7_83 dX7_sorry_2 kd_120 rfl (c_X7_isWall (M := rI M 121 f) hg h6 ?_) ⟨Nat.le_of_ble_eq_true rfl, Nat.le_of_ble_eq_true rfl, Nat.le_of_ble_eq_true rfl⟩ (Nat.le_of_ble_eq_true rfl)
  refine wp_if_ne (tgt := 10) dX7_sorry_5 rfl (fun c5 => ?_) (fun c5 => ?_)
  · obtain ⟨w, hw, rfl⟩ := upto_of c5 (by omega)
    rw [tSy, if_neg c5, cl_nI (by omega)] at hQ
    refine wp_rload_0 dX7_sorry_10 ?_
    refine wp_iload_1 dX7_sorry_11 ?_
    refine wp_callV_1 kX7_67 dX7_sorry_12 kd_120 rfl (c_X7_waits (M := rI M 121 f) (by omega) ?_) ⟨Nat.le_of_ble_eq_true rfl, Nat.le_of_ble_eq_true rfl, Nat.le_of_ble_eq_true rfl⟩ (Nat.le_of_ble_eq_true rfl)
    rw [rI_at]
    refine wp_if_le (tgt := 21) dX7_sorry_15 rfl (fun c15 => ?_) (fun c15 => ?_)
    · refine wp_rload_0 dX7_sorry_21 ?_
      refine wp_callV_0 kX7_153 dX7_sorry_22 kd_120 rfl (c_X7_remember (M := M) hu hu8 ?_) ⟨Nat.le_of_ble_eq_true rfl, Nat.le_of_ble_eq_true rfl, Nat.le_of_ble_eq_true rfl⟩ (Nat.le_of_ble_eq_true rfl)
      refine wp_rload_0 dX7_sorry_25 ?_
      refine wp_getR (t := 121) fX7_7 dX7_sorry_26 kd_120 rfl (rf_120_0) ?_
      refine wp_iload_1 dX7_sorry_29 ?_
      refine wp_callS_2 kX7_159 dX7_sorry_30 (c_X7_sorries0 ar_121 (by omega) ?_) ⟨Nat.le_of_ble_eq_true rfl, Nat.le_of_ble_eq_true rfl, Nat.le_of_ble_eq_true rfl⟩ (Nat.le_of_ble_eq_true rfl)
      refine wp_rload_0 dX7_sorry_33 ?_
      refine wp_getR (t := 121) fX7_7 dX7_sorry_34 kd_120 rfl (rf_120_0) ?_
      refine wp_bipush (v := 32) dX7_sorry_37 rfl ?_
      refine wp_iload_1 dX7_sorry_39 ?_
      refine wp_iadd dX7_sorry_40 ?_
      refine wp_rload_0 dX7_sorry_41 ?_
      refine wp_getR (t := 121) fX7_7 dX7_sorry_42 kd_120 rfl (rf_120_0) ?_
      refine wp_iconst (v := 3) dX7_sorry_45 rfl ?_
      refine wp_aldF (j := 3) dX7_sorry_46 ar_121 (rfl) (by omega) ?_
      refine wp_astF (j := (32 + w)) dX7_sorry_47 ar_121 (nI_add _ _) (by omega) ?_
      refine wp_rload_0 dX7_sorry_48 ?_
      refine wp_getR (t := 121) fX7_7 dX7_sorry_49 kd_120 rfl (rf_120_0) ?_
      refine wp_bipush (v := 27) dX7_sorry_52 rfl ?_
      refine wp_iload_1 dX7_sorry_54 ?_
      refine wp_iadd dX7_sorry_55 ?_
      refine wp_aldF (j := (27 + w)) dX7_sorry_56 ar_121 (nI_add _ _) (by omega) ?_
      refine wp_iret dX7_sorry_57 rfl rfl ?_
      rw [if_pos c15] at hQ
      exact hQ
    · refine wp_bipush (v := (-2)) dX7_sorry_18 rfl ?_
      refine wp_iret dX7_sorry_20 rfl rfl ?_
      rw [if_neg c15] at hQ
      exact hQ
  · refine wp_iconst (v := (-1)) dX7_sorry_8 rfl ?_
    refine wp_iret dX7_sorry_9 rfl rfl ?_
    rw [tSy, if_pos c5] at hQ
    exact hQ
def rtR (x : Int32) : Nat → Nat → Int32
  | 0, j => nI j
  | n + 1, j => if x < (nI j + 1) * (nI j + 1) then nI j else rtR x n (j + 1)
set_option maxRecDepth 100000 in
set_option maxHeartbeats 4000000 in
theorem l_X7_root {κ : KX} {M : MM} {Q : Option Value → va_W → Prop} {m : Nat} (hm : m ≤ 400) : ∀ n j, j + n = 21 → Q (some (.int (rtR (nI m) n j))) (wM κ M) → WP κ (0, 0, 0) mX7_root 2 [some (.int (nI m)), some (.int (nI j))] [] (wM κ M) (0, 0) Q := by
  intro n
  induction n with
  | zero =>
    intro j hn hQ
    have hn : j = 21 := hn
    subst hn
    refine wp_iload_1 dX7_root_2 ?_
    refine wp_iconst (v := 1) dX7_root_3 rfl ?_
    refine wp_iadd dX7_root_4 ?_
    refine wp_iload_1 dX7_root_5 ?_
    refine wp_iconst (v := 1) dX7_root_6 rfl ?_
    refine wp_iadd dX7_root_7 ?_
    refine wp_imul dX7_root_8 ?_
    refine wp_iload_0 dX7_root_9 ?_
    refine wp_icmp_gt (tgt := 19) dX7_root_10 rfl (fun c10 => ?_) (fun c10 => absurd (by rw [show (nI 21 + 1) * (nI 21 + 1) = nI 484 by decide]; exact nI_lt (by omega) (by decide)) c10)
    refine wp_iload_1 dX7_root_19 ?_
    refine wp_iret dX7_root_20 rfl rfl ?_
    exact hQ
  | succ n ih =>
    intro j hn hQ
    refine wp_iload_1 dX7_root_2 ?_
    refine wp_iconst (v := 1) dX7_root_3 rfl ?_
    refine wp_iadd dX7_root_4 ?_
    refine wp_iload_1 dX7_root_5 ?_
    refine wp_iconst (v := 1) dX7_root_6 rfl ?_
    refine wp_iadd dX7_root_7 ?_
    refine wp_imul dX7_root_8 ?_
    refine wp_iload_0 dX7_root_9 ?_
    refine wp_icmp_gt (tgt := 19) dX7_root_10 rfl (fun c10 => ?_) (fun c10 => ?_)
    · refine wp_iload_1 dX7_root_19 ?_
      refine wp_iret dX7_root_20 rfl rfl ?_
      exact Qe hQ (by rw [rtR, if_pos c10]) rfl
    · refine wp_iinc_1 (v := nI (j + 1)) dX7_root_13 (nI_inc _) (Nat.le_of_ble_eq_true rfl) rfl ?_
      refine wp_goto (tgt := 2) dX7_root_16 rfl ?_
      exact ih (j + 1) (by omega) (Qe hQ (by rw [rtR, if_neg c10]) rfl)
set_option maxRecDepth 100000 in
set_option maxHeartbeats 4000000 in
theorem c_X7_root {κ : KX} {M : MM} {Q : Option Value → va_W → Prop} {m : Nat} (hm : m ≤ 400) (hQ : Q (some (.int (rtR (nI m) 21 0))) (wM κ (M))) : CT κ (0, 0, 0) mX7_root [.int (nI m)] (wM κ M) Q := by
  refine CT.of okX7_root [some (.int (nI m)), none] (Nat.le_of_ble_eq_true rfl) rfl ?_
  refine wp_iconst (v := 0) dX7_root_0 rfl ?_
  refine wp_istore_1 dX7_root_1 (Nat.le_of_ble_eq_true rfl) rfl ?_
  exact l_X7_root hm 21 0 (by omega) hQ
def gfF (f : Nat → Int32) (u w b : Nat) (y : Int32) : Nat → Int32 := upd (rmF u f) (16 + w + b) (rmF u f (16 + w + b) + y)
def gfG (f : Nat → Int32) (u w b : Nat) (y : Int32) : Nat → Int32 := upd (gfF f u w b y) (27 + w) (asQ (gfF f u w b y (27 + w) - rtR y 21 0))
def tGf (f : Nat → Int32) (g u : Nat) (x b y : Int32) : (Nat → Int32) × Int32 := if wi x 0 (nI (g - 1) - 1) = 0 then (f, -1) else if wi b 0 1 = 0 then (f, -1) else if wi y 1 400 = 0 then (f, -1) else (gfG f u (cl x) (cl b) y, gfG f u (cl x) (cl b) y (27 + cl x))
set_option maxRecDepth 100000 in
set_option maxHeartbeats 4000000 in
theorem c_X7_gift {κ : KX} {M : MM} {Q : Option Value → va_W → Prop} {f : Nat → Int32} {g u : Nat} {x b y : Int32} (hg : f 0 = nI g) (h6 : g ≤ 6) (hu : f 38 = nI u) (hu8 : u ≤ 8) (hQ : Q (some (.int (tGf f g u x b y).2)) (wM κ (rI M 121 (tGf f g u x b y).1))) : CT κ (2, 0, 0) mX7_gift [rv κ 120, .int x, .int b, .int y] (wM κ (rI M 121 f)) Q := by
  refine CT.of okX7_gift [some (rv κ 120), some (.int x), some (.int b), some (.int y)] (Nat.le_of_ble_eq_true rfl) rfl ?_
  refine wp_rload_0 dX7_gift_0 ?_
  refine wp_iload_1 dX7_gift_1 ?_
  refine wp_callV_1 kX7_83 dX7_gift_2 kd_120 rfl (c_X7_isWall (M := rI M 121 f) hg h6 ?_) ⟨Nat.le_of_ble_eq_true rfl, Nat.le_of_ble_eq_true rfl, Nat.le_of_ble_eq_true rfl⟩ (Nat.le_of_ble_eq_true rfl)
  refine wp_if_eq (tgt := 27) dX7_gift_5 rfl (fun c5 => ?_) (fun c5 => ?_)
  · refine wp_iconst (v := (-1)) dX7_gift_27 rfl ?_
    refine wp_iret dX7_gift_28 rfl rfl ?_
    first
      | (rw [tGf, if_pos c5] at hQ; exact hQ)
      | (rw [if_pos c12] at hQ; exact hQ)
      | (rw [if_pos c24] at hQ; exact hQ)
  · obtain ⟨w, hw, rfl⟩ := upto_of c5 (by omega)
    rw [tGf, if_neg c5, cl_nI (by omega)] at hQ
    refine wp_iload_2 dX7_gift_8 ?_
    refine wp_callS_1 kX7_163 dX7_gift_9 (c_X7_isTwo ?_) ⟨Nat.le_of_ble_eq_true rfl, Nat.le_of_ble_eq_true rfl, Nat.le_of_ble_eq_true rfl⟩ (Nat.le_of_ble_eq_true rfl)
    refine wp_if_eq (tgt := 27) dX7_gift_12 rfl (fun c12 => ?_) (fun c12 => ?_)
    · refine wp_iconst (v := (-1)) dX7_gift_27 rfl ?_
      refine wp_iret dX7_gift_28 rfl rfl ?_
      first
        | (rw [tGf, if_pos c5] at hQ; exact hQ)
        | (rw [if_pos c12] at hQ; exact hQ)
        | (rw [if_pos c24] at hQ; exact hQ)
    · obtain ⟨b2, hb1, hb2, rfl⟩ := rng_of (a := 0) (b := 1) c12 (by decide) (by decide)
      rw [if_neg c12, cl_nI (by omega)] at hQ
      refine wp_iload_3 dX7_gift_15 ?_
      refine wp_i2l dX7_gift_16 ?_
      refine wp_lconst (v := 1) dX7_gift_17 rfl ?_
      refine wp_ldc2 nX7_166 dX7_gift_18 ?_
      refine wp_callS_3 kX7_43 dX7_gift_21 (c_X7_in (lo := 1) (hi := 400) (by decide) (by decide) ?_) ⟨Nat.le_of_ble_eq_true rfl, Nat.le_of_ble_eq_true rfl, Nat.le_of_ble_eq_true rfl⟩ (Nat.le_of_ble_eq_true rfl)
      refine wp_if_ne (tgt := 29) dX7_gift_24 rfl (fun c24 => ?_) (fun c24 => ?_)
      · obtain ⟨m, hm1, hm2, rfl⟩ := rng_of (a := 1) (b := 400) c24 (by decide) (by decide)
        rw [if_neg c24] at hQ
        refine wp_rload_0 dX7_gift_29 ?_
        refine wp_callV_0 kX7_153 dX7_gift_30 kd_120 rfl (c_X7_remember (M := M) hu hu8 ?_) ⟨Nat.le_of_ble_eq_true rfl, Nat.le_of_ble_eq_true rfl, Nat.le_of_ble_eq_true rfl⟩ (Nat.le_of_ble_eq_true rfl)
        refine wp_rload_0 dX7_gift_33 ?_
        refine wp_getR (t := 121) fX7_7 dX7_gift_34 kd_120 rfl (rf_120_0) ?_
        refine wp_bipush (v := 16) dX7_gift_37 rfl ?_
        refine wp_iload_1 dX7_gift_39 ?_
        refine wp_iadd dX7_gift_40 ?_
        refine wp_iload_2 dX7_gift_41 ?_
        refine wp_iadd dX7_gift_42 ?_
        refine wp_dup2_iv dX7_gift_43 ?_
        refine wp_aldF (j := ((16 + w) + b2)) dX7_gift_44 ar_121 ((congr (congrArg HAdd.hAdd (nI_add _ _)) (rfl)).trans (nI_add _ _)) (by omega) ?_
        refine wp_iload_3 dX7_gift_45 ?_
        refine wp_iadd dX7_gift_46 ?_
        refine wp_astF (j := ((16 + w) + b2)) dX7_gift_47 ar_121 ((congr (congrArg HAdd.hAdd (nI_add _ _)) (rfl)).trans (nI_add _ _)) (by omega) ?_
        refine wp_rload_0 dX7_gift_48 ?_
        refine wp_getR (t := 121) fX7_7 dX7_gift_49 kd_120 rfl (rf_120_0) ?_
        refine wp_bipush (v := 27) dX7_gift_52 rfl ?_
        refine wp_iload_1 dX7_gift_54 ?_
        refine wp_iadd dX7_gift_55 ?_
        refine wp_rload_0 dX7_gift_56 ?_
        refine wp_getR (t := 121) fX7_7 dX7_gift_57 kd_120 rfl (rf_120_0) ?_
        refine wp_bipush (v := 27) dX7_gift_60 rfl ?_
        refine wp_iload_1 dX7_gift_62 ?_
        refine wp_iadd dX7_gift_63 ?_
        refine wp_aldF (j := (27 + w)) dX7_gift_64 ar_121 (nI_add _ _) (by omega) ?_
        refine wp_iload_3 dX7_gift_65 ?_
        refine wp_callS_1 kX7_168 dX7_gift_66 (c_X7_root hm2 ?_) ⟨Nat.le_of_ble_eq_true rfl, Nat.le_of_ble_eq_true rfl, Nat.le_of_ble_eq_true rfl⟩ (Nat.le_of_ble_eq_true rfl)
        refine wp_isub dX7_gift_69 ?_
        refine wp_callS_1 kX7_55 dX7_gift_70 (c_X7_bound ?_) ⟨Nat.le_of_ble_eq_true rfl, Nat.le_of_ble_eq_true rfl, Nat.le_of_ble_eq_true rfl⟩ (Nat.le_of_ble_eq_true rfl)
        refine wp_astF (j := (27 + w)) dX7_gift_73 ar_121 (nI_add _ _) (by omega) ?_
        refine wp_rload_0 dX7_gift_74 ?_
        refine wp_getR (t := 121) fX7_7 dX7_gift_75 kd_120 rfl (rf_120_0) ?_
        refine wp_bipush (v := 27) dX7_gift_78 rfl ?_
        refine wp_iload_1 dX7_gift_80 ?_
        refine wp_iadd dX7_gift_81 ?_
        refine wp_aldF (j := (27 + w)) dX7_gift_82 ar_121 (nI_add _ _) (by omega) ?_
        refine wp_iret dX7_gift_83 rfl rfl ?_
        exact hQ
      · refine wp_iconst (v := (-1)) dX7_gift_27 rfl ?_
        refine wp_iret dX7_gift_28 rfl rfl ?_
        first
          | (rw [tGf, if_pos c5] at hQ; exact hQ)
          | (rw [if_pos c12] at hQ; exact hQ)
          | (rw [if_pos c24] at hQ; exact hQ)
def goF (f : Nat → Int32) (u w : Nat) (y : Int32) : Nat → Int32 := upd (rmF u f) (27 + w) (asQ (rmF u f (27 + w) + y))
def tGo (f : Nat → Int32) (g u : Nat) (x y : Int32) : (Nat → Int32) × Int32 := if wi x 0 (nI (g - 1) - 1) = 0 then (f, -1) else if wi y 1 9 = 0 then (f, -1) else (goF f u (cl x) y, goF f u (cl x) y (27 + cl x))
set_option maxRecDepth 100000 in
set_option maxHeartbeats 4000000 in
theorem c_X7_gossip {κ : KX} {M : MM} {Q : Option Value → va_W → Prop} {f : Nat → Int32} {g u : Nat} {x y : Int32} (hg : f 0 = nI g) (h6 : g ≤ 6) (hu : f 38 = nI u) (hu8 : u ≤ 8) (hQ : Q (some (.int (tGo f g u x y).2)) (wM κ (rI M 121 (tGo f g u x y).1))) : CT κ (2, 0, 0) mX7_gossip [rv κ 120, .int x, .int y] (wM κ (rI M 121 f)) Q := by
  refine CT.of okX7_gossip [some (rv κ 120), some (.int x), some (.int y)] (Nat.le_of_ble_eq_true rfl) rfl ?_
  refine wp_rload_0 dX7_gossip_0 ?_
  refine wp_iload_1 dX7_gossip_1 ?_
  refine wp_callV_1 kX7_83 dX7_gossip_2 kd_120 rfl (c_X7_isWall (M := rI M 121 f) hg h6 ?_) ⟨Nat.le_of_ble_eq_true rfl, Nat.le_of_ble_eq_true rfl, Nat.le_of_ble_eq_true rfl⟩ (Nat.le_of_ble_eq_true rfl)
  refine wp_if_eq (tgt := 20) dX7_gossip_5 rfl (fun c5 => ?_) (fun c5 => ?_)
  · refine wp_iconst (v := (-1)) dX7_gossip_20 rfl ?_
    refine wp_iret dX7_gossip_21 rfl rfl ?_
    first
      | (rw [tGo, if_pos c5] at hQ; exact hQ)
      | (rw [if_pos c17] at hQ; exact hQ)
  · obtain ⟨w, hw, rfl⟩ := upto_of c5 (by omega)
    rw [tGo, if_neg c5, cl_nI (by omega)] at hQ
    refine wp_iload_2 dX7_gossip_8 ?_
    refine wp_i2l dX7_gossip_9 ?_
    refine wp_lconst (v := 1) dX7_gossip_10 rfl ?_
    refine wp_ldc2 nX7_72 dX7_gossip_11 ?_
    refine wp_callS_3 kX7_43 dX7_gossip_14 (c_X7_in (lo := 1) (hi := 9) (by decide) (by decide) ?_) ⟨Nat.le_of_ble_eq_true rfl, Nat.le_of_ble_eq_true rfl, Nat.le_of_ble_eq_true rfl⟩ (Nat.le_of_ble_eq_true rfl)
    refine wp_if_ne (tgt := 22) dX7_gossip_17 rfl (fun c17 => ?_) (fun c17 => ?_)
    · refine wp_rload_0 dX7_gossip_22 ?_
      refine wp_callV_0 kX7_153 dX7_gossip_23 kd_120 rfl (c_X7_remember (M := M) hu hu8 ?_) ⟨Nat.le_of_ble_eq_true rfl, Nat.le_of_ble_eq_true rfl, Nat.le_of_ble_eq_true rfl⟩ (Nat.le_of_ble_eq_true rfl)
      refine wp_rload_0 dX7_gossip_26 ?_
      refine wp_getR (t := 121) fX7_7 dX7_gossip_27 kd_120 rfl (rf_120_0) ?_
      refine wp_bipush (v := 27) dX7_gossip_30 rfl ?_
      refine wp_iload_1 dX7_gossip_32 ?_
      refine wp_iadd dX7_gossip_33 ?_
      refine wp_rload_0 dX7_gossip_34 ?_
      refine wp_getR (t := 121) fX7_7 dX7_gossip_35 kd_120 rfl (rf_120_0) ?_
      refine wp_bipush (v := 27) dX7_gossip_38 rfl ?_
      refine wp_iload_1 dX7_gossip_40 ?_
      refine wp_iadd dX7_gossip_41 ?_
      refine wp_aldF (j := (27 + w)) dX7_gossip_42 ar_121 (nI_add _ _) (by omega) ?_
      refine wp_iload_2 dX7_gossip_43 ?_
      refine wp_iadd dX7_gossip_44 ?_
      refine wp_callS_1 kX7_55 dX7_gossip_45 (c_X7_bound ?_) ⟨Nat.le_of_ble_eq_true rfl, Nat.le_of_ble_eq_true rfl, Nat.le_of_ble_eq_true rfl⟩ (Nat.le_of_ble_eq_true rfl)
      refine wp_astF (j := (27 + w)) dX7_gossip_48 ar_121 (nI_add _ _) (by omega) ?_
      refine wp_rload_0 dX7_gossip_49 ?_
      refine wp_getR (t := 121) fX7_7 dX7_gossip_50 kd_120 rfl (rf_120_0) ?_
      refine wp_bipush (v := 27) dX7_gossip_53 rfl ?_
      refine wp_iload_1 dX7_gossip_55 ?_
      refine wp_iadd dX7_gossip_56 ?_
      refine wp_aldF (j := (27 + w)) dX7_gossip_57 ar_121 (nI_add _ _) (by omega) ?_
      refine wp_iret dX7_gossip_58 rfl rfl ?_
      rw [if_neg c17] at hQ
      exact hQ
    · refine wp_iconst (v := (-1)) dX7_gossip_20 rfl ?_
      refine wp_iret dX7_gossip_21 rfl rfl ?_
      first
        | (rw [tGo, if_pos c5] at hQ; exact hQ)
        | (rw [if_pos c17] at hQ; exact hQ)
def lvF (f : Nat → Int32) (u w : Nat) : Nat → Int32 := upd (rmF u f) (22 + w) (rmF u f (22 + w) - 1)
def tLv (f : Nat → Int32) (g u : Nat) (x : Int32) : (Nat → Int32) × Int32 := if wi x 0 (nI (g - 1) - 1) = 0 then (f, -1) else if f (22 + cl x) = 0 then (f, -2) else (lvF f u (cl x), lvF f u (cl x) (22 + cl x))
def flF (f : Nat → Int32) (w : Nat) : Nat → Int32 := upd (upd f (22 + w) 0) (27 + w) (asQ (upd f (22 + w) 0 (27 + w) + 5))
def tFl (f : Nat → Int32) (g u : Nat) (x : Int32) : (Nat → Int32) × Int32 := if wi x 0 (nI (g - 1) - 1) = 0 then (f, -1) else if f (22 + cl x) = 0 then (f, -2) else (flF (rmF u f) (cl x), f (22 + cl x))
set_option maxRecDepth 100000 in
set_option maxHeartbeats 4000000 in
theorem c_X7_lovers {κ : KX} {M : MM} {Q : Option Value → va_W → Prop} {f : Nat → Int32} {g u : Nat} {x : Int32} (hg : f 0 = nI g) (h6 : g ≤ 6) (hu : f 38 = nI u) (hu8 : u ≤ 8) (hQ : Q (some (.int (tLv f g u x).2)) (wM κ (rI M 121 (tLv f g u x).1))) : CT κ (2, 0, 0) mX7_lovers [rv κ 120, .int x] (wM κ (rI M 121 f)) Q := by
  refine CT.of okX7_lovers [some (rv κ 120), some (.int x)] (Nat.le_of_ble_eq_true rfl) rfl ?_
  refine wp_rload_0 dX7_lovers_0 ?_
  refine wp_iload_1 dX7_lovers_1 ?_
  refine wp_callV_1 kX7_83 dX7_lovers_2 kd_120 rfl (c_X7_isWall (M := rI M 121 f) hg h6 ?_) ⟨Nat.le_of_ble_eq_true rfl, Nat.le_of_ble_eq_true rfl, Nat.le_of_ble_eq_true rfl⟩ (Nat.le_of_ble_eq_true rfl)
  refine wp_if_ne (tgt := 10) dX7_lovers_5 rfl (fun c5 => ?_) (fun c5 => ?_)
  · obtain ⟨w, hw, rfl⟩ := upto_of c5 (by omega)
    rw [tLv, if_neg c5, cl_nI (by omega)] at hQ
    refine wp_rload_0 dX7_lovers_10 ?_
    refine wp_getR (t := 121) fX7_7 dX7_lovers_11 kd_120 rfl (rf_120_0) ?_
    refine wp_bipush (v := 22) dX7_lovers_14 rfl ?_
    refine wp_iload_1 dX7_lovers_16 ?_
    refine wp_iadd dX7_lovers_17 ?_
    refine wp_aldF (j := (22 + w)) dX7_lovers_18 ar_121 (nI_add _ _) (by omega) ?_
    refine wp_if_ne (tgt := 25) dX7_lovers_19 rfl (fun c19 => ?_) (fun c19 => ?_)
    · refine wp_rload_0 dX7_lovers_25 ?_
      refine wp_callV_0 kX7_153 dX7_lovers_26 kd_120 rfl (c_X7_remember (M := M) hu hu8 ?_) ⟨Nat.le_of_ble_eq_true rfl, Nat.le_of_ble_eq_true rfl, Nat.le_of_ble_eq_true rfl⟩ (Nat.le_of_ble_eq_true rfl)
      refine wp_rload_0 dX7_lovers_29 ?_
      refine wp_getR (t := 121) fX7_7 dX7_lovers_30 kd_120 rfl (rf_120_0) ?_
      refine wp_bipush (v := 22) dX7_lovers_33 rfl ?_
      refine wp_iload_1 dX7_lovers_35 ?_
      refine wp_iadd dX7_lovers_36 ?_
      refine wp_dup2_iv dX7_lovers_37 ?_
      refine wp_aldF (j := (22 + w)) dX7_lovers_38 ar_121 (nI_add _ _) (by omega) ?_
      refine wp_iconst (v := 1) dX7_lovers_39 rfl ?_
      refine wp_isub dX7_lovers_40 ?_
      refine wp_astF (j := (22 + w)) dX7_lovers_41 ar_121 (nI_add _ _) (by omega) ?_
      refine wp_rload_0 dX7_lovers_42 ?_
      refine wp_getR (t := 121) fX7_7 dX7_lovers_43 kd_120 rfl (rf_120_0) ?_
      refine wp_bipush (v := 22) dX7_lovers_46 rfl ?_
      refine wp_iload_1 dX7_lovers_48 ?_
      refine wp_iadd dX7_lovers_49 ?_
      refine wp_aldF (j := (22 + w)) dX7_lovers_50 ar_121 (nI_add _ _) (by omega) ?_
      refine wp_iret dX7_lovers_51 rfl rfl ?_
      rw [if_neg c19] at hQ
      exact hQ
    · refine wp_bipush (v := (-2)) dX7_lovers_22 rfl ?_
      refine wp_iret dX7_lovers_24 rfl rfl ?_
      rw [if_pos c19] at hQ
      exact hQ
  · refine wp_iconst (v := (-1)) dX7_lovers_8 rfl ?_
    refine wp_iret dX7_lovers_9 rfl rfl ?_
    rw [tLv, if_pos c5] at hQ
    exact hQ
set_option maxRecDepth 100000 in
set_option maxHeartbeats 4000000 in
theorem c_X7_fall {κ : KX} {M : MM} {Q : Option Value → va_W → Prop} {f : Nat → Int32} {w : Nat} (hw : w < 5) (hQ : Q (none) (wM κ (rI M 121 (flF f w)))) : CT κ (1, 0, 0) mX7_fall [rv κ 120, .int (nI w)] (wM κ (rI M 121 f)) Q := by
  refine CT.of okX7_fall [some (rv κ 120), some (.int (nI w))] (Nat.le_of_ble_eq_true rfl) rfl ?_
  refine wp_rload_0 dX7_fall_0 ?_
  refine wp_getR (t := 121) fX7_7 dX7_fall_1 kd_120 rfl (rf_120_0) ?_
  refine wp_bipush (v := 22) dX7_fall_4 rfl ?_
  refine wp_iload_1 dX7_fall_6 ?_
  refine wp_iadd dX7_fall_7 ?_
  refine wp_iconst (v := 0) dX7_fall_8 rfl ?_
  refine wp_astF (j := (22 + w)) dX7_fall_9 ar_121 (nI_add _ _) (by omega) ?_
  refine wp_rload_0 dX7_fall_10 ?_
  refine wp_getR (t := 121) fX7_7 dX7_fall_11 kd_120 rfl (rf_120_0) ?_
  refine wp_bipush (v := 27) dX7_fall_14 rfl ?_
  refine wp_iload_1 dX7_fall_16 ?_
  refine wp_iadd dX7_fall_17 ?_
  refine wp_rload_0 dX7_fall_18 ?_
  refine wp_getR (t := 121) fX7_7 dX7_fall_19 kd_120 rfl (rf_120_0) ?_
  refine wp_bipush (v := 27) dX7_fall_22 rfl ?_
  refine wp_iload_1 dX7_fall_24 ?_
  refine wp_iadd dX7_fall_25 ?_
  refine wp_aldF (j := (27 + w)) dX7_fall_26 ar_121 (nI_add _ _) (by omega) ?_
  refine wp_iconst (v := 5) dX7_fall_27 rfl ?_
  refine wp_iadd dX7_fall_28 ?_
  refine wp_callS_1 kX7_55 dX7_fall_29 (c_X7_bound ?_) ⟨Nat.le_of_ble_eq_true rfl, Nat.le_of_ble_eq_true rfl, Nat.le_of_ble_eq_true rfl⟩ (Nat.le_of_ble_eq_true rfl)
  refine wp_astF (j := (27 + w)) dX7_fall_32 ar_121 (nI_add _ _) (by omega) ?_
  refine wp_vret dX7_fall_33 rfl rfl ?_
  exact hQ
set_option maxRecDepth 100000 in
set_option maxHeartbeats 4000000 in
theorem c_X7_falls {κ : KX} {M : MM} {Q : Option Value → va_W → Prop} {f : Nat → Int32} {g u : Nat} {x : Int32} (hg : f 0 = nI g) (h6 : g ≤ 6) (hu : f 38 = nI u) (hu8 : u ≤ 8) (hQ : Q (some (.int (tFl f g u x).2)) (wM κ (rI M 121 (tFl f g u x).1))) : CT κ (2, 0, 0) mX7_falls [rv κ 120, .int x] (wM κ (rI M 121 f)) Q := by
  refine CT.of okX7_falls [some (rv κ 120), some (.int x), none] (Nat.le_of_ble_eq_true rfl) rfl ?_
  refine wp_rload_0 dX7_falls_0 ?_
  refine wp_iload_1 dX7_falls_1 ?_
  refine wp_callV_1 kX7_83 dX7_falls_2 kd_120 rfl (c_X7_isWall (M := rI M 121 f) hg h6 ?_) ⟨Nat.le_of_ble_eq_true rfl, Nat.le_of_ble_eq_true rfl, Nat.le_of_ble_eq_true rfl⟩ (Nat.le_of_ble_eq_true rfl)
  refine wp_if_ne (tgt := 10) dX7_falls_5 rfl (fun c5 => ?_) (fun c5 => ?_)
  · obtain ⟨w, hw, rfl⟩ := upto_of c5 (by omega)
    rw [tFl, if_neg c5, cl_nI (by omega)] at hQ
    refine wp_rload_0 dX7_falls_10 ?_
    refine wp_getR (t := 121) fX7_7 dX7_falls_11 kd_120 rfl (rf_120_0) ?_
    refine wp_bipush (v := 22) dX7_falls_14 rfl ?_
    refine wp_iload_1 dX7_falls_16 ?_
    refine wp_iadd dX7_falls_17 ?_
    refine wp_aldF (j := (22 + w)) dX7_falls_18 ar_121 (nI_add _ _) (by omega) ?_
    refine wp_istore_2 dX7_falls_19 (Nat.le_of_ble_eq_true rfl) rfl ?_
    refine wp_iload_2 dX7_falls_20 ?_
    refine wp_if_ne (tgt := 27) dX7_falls_21 rfl (fun c21 => ?_) (fun c21 => ?_)
    · refine wp_rload_0 dX7_falls_27 ?_
      refine wp_callV_0 kX7_153 dX7_falls_28 kd_120 rfl (c_X7_remember (M := M) hu hu8 ?_) ⟨Nat.le_of_ble_eq_true rfl, Nat.le_of_ble_eq_true rfl, Nat.le_of_ble_eq_true rfl⟩ (Nat.le_of_ble_eq_true rfl)
      refine wp_rload_0 dX7_falls_31 ?_
      refine wp_iload_1 dX7_falls_32 ?_
      refine wp_callV_1 kX7_171 dX7_falls_33 kd_120 rfl (c_X7_fall (M := M) (by omega) ?_) ⟨Nat.le_of_ble_eq_true rfl, Nat.le_of_ble_eq_true rfl, Nat.le_of_ble_eq_true rfl⟩ (Nat.le_of_ble_eq_true rfl)
      refine wp_iload_2 dX7_falls_36 ?_
      refine wp_iret dX7_falls_37 rfl rfl ?_
      rw [if_neg c21] at hQ
      exact hQ
    · refine wp_bipush (v := (-2)) dX7_falls_24 rfl ?_
      refine wp_iret dX7_falls_26 rfl rfl ?_
      rw [if_pos c21] at hQ
      exact hQ
  · refine wp_iconst (v := (-1)) dX7_falls_8 rfl ?_
    refine wp_iret dX7_falls_9 rfl rfl ?_
    rw [tFl, if_pos c5] at hQ
    exact hQ
def drl (x : Int64) : Int64 := x * 1103515245 + 12345
def drv (h : Nat → Int32) : Int32 := (drl (h 37).toInt64 - drl (h 37).toInt64 / 2147483648 * 2147483648).toInt32
def drH (h : Nat → Int32) : Nat → Int32 := upd h 37 (drv h)
def blR (h : Nat → Int32) (c : Int32) : Nat → (Nat → Int32) × Int32
  | 0 => (h, c)
  | j + 1 => if (blR h c j).1 (22 + j) < 12 then blR h c j else if drH (blR h c j).1 (22 + j) ≤ drH (blR h c j).1 37 / 65536 - drH (blR h c j).1 37 / 65536 / 100 * 100 then (drH (blR h c j).1, (blR h c j).2) else (flF (drH (blR h c j).1) j, (blR h c j).2 + 1)
theorem blR_fr (h : Nat → Int32) (c : Int32) {a : Nat} (h37 : a ≠ 37) (ha : a < 22 ∨ 32 ≤ a) : ∀ j, j ≤ 5 → (blR h c j).1 a = h a
  | 0, _ => rfl
  | j + 1, hj => by
    have ih := blR_fr h c h37 ha j (by omega)
    have e1 : a ≠ 22 + j := by omega
    have e2 : a ≠ 27 + j := by omega
    rw [blR]
    split
    · exact ih
    · split
      · simp [drH, upd, h37, ih]
      · simp [flF, drH, upd, h37, e1, e2, ih]
set_option maxRecDepth 100000 in
set_option maxHeartbeats 4000000 in
theorem l_X7_drift2 {κ : KX} {M : MM} {Q : Option Value → va_W → Prop} {f : Nat → Int32} {g : Nat} {c x y : Int32} (hg : f 0 = nI g) (h6 : g ≤ 6) (hx : WP κ (3, 0, 0) mX7_drift 153 [some (rv κ 120), some (.int x), some (.int (blR f c ((g - 1))).2), some (.int y), none, some (.int (nI ((g - 1))))] [] (wM κ (rI M 121 (blR f c ((g - 1))).1)) (0, 0) Q) : ∀ n j, j + n = (g - 1) → WP κ (3, 0, 0) mX7_drift 56 [some (rv κ 120), some (.int x), some (.int (blR f c j).2), some (.int y), none, some (.int (nI j))] [] (wM κ (rI M 121 (blR f c j).1)) (0, 0) Q := by
  intro n
  induction n with
  | zero =>
    intro j hn
    have hn : j = (g - 1) := hn
    refine wp_iload_5 dX7_drift_56 ?_
    refine wp_rload_0 dX7_drift_58 ?_
    refine wp_getR (t := 121) fX7_7 dX7_drift_59 kd_120 rfl (rf_120_0) ?_
    refine wp_iconst (v := 0) dX7_drift_62 rfl ?_
    refine wp_aldF (j := 0) dX7_drift_63 ar_121 (rfl) (by omega) ?_
    rw [blR_fr f c (by decide) (by decide) j (by omega), hg]
    refine wp_iconst (v := 1) dX7_drift_64 rfl ?_
    refine wp_isub dX7_drift_65 ?_
    refine wp_icmp_ge (tgt := 153) dX7_drift_66 rfl (fun c66 => ?_) (fun c66 => absurd (gm1_le (by omega) (by omega) (by omega)) c66)
    subst hn
    exact hx
  | succ n ih =>
    intro j hn
    refine wp_iload_5 dX7_drift_56 ?_
    refine wp_rload_0 dX7_drift_58 ?_
    refine wp_getR (t := 121) fX7_7 dX7_drift_59 kd_120 rfl (rf_120_0) ?_
    refine wp_iconst (v := 0) dX7_drift_62 rfl ?_
    refine wp_aldF (j := 0) dX7_drift_63 ar_121 (rfl) (by omega) ?_
    rw [blR_fr f c (by decide) (by decide) j (by omega), hg]
    refine wp_iconst (v := 1) dX7_drift_64 rfl ?_
    refine wp_isub dX7_drift_65 ?_
    refine wp_icmp_ge (tgt := 153) dX7_drift_66 rfl (fun c66 => absurd c66 (gm1_gt (by omega) (by omega))) (fun c66 => ?_)
    refine wp_rload_0 dX7_drift_69 ?_
    refine wp_getR (t := 121) fX7_7 dX7_drift_70 kd_120 rfl (rf_120_0) ?_
    refine wp_bipush (v := 22) dX7_drift_73 rfl ?_
    refine wp_iload_5 dX7_drift_75 ?_
    refine wp_iadd dX7_drift_77 ?_
    refine wp_aldF (j := (22 + j)) dX7_drift_78 ar_121 (nI_add _ _) (by omega) ?_
    refine wp_bipush (v := 12) dX7_drift_79 rfl ?_
    refine wp_icmp_lt (tgt := 147) dX7_drift_81 rfl (fun c81 => ?_) (fun c81 => ?_)
    · refine wp_iinc_5 (v := nI (j + 1)) dX7_drift_147 (nI_inc _) (Nat.le_of_ble_eq_true rfl) rfl ?_
      refine wp_goto (tgt := 56) dX7_drift_150 rfl ?_
      have h := ih (j + 1) (by omega)
      first
        | (rw [show blR f c (j + 1) = blR f c j from if_pos c81] at h; exact h)
        | (rw [show blR f c (j + 1) = (drH (blR f c j).1, (blR f c j).2) from (if_neg c81).trans (if_pos c135)] at h; exact h)
        | (rw [show blR f c (j + 1) = (flF (drH (blR f c j).1) j, (blR f c j).2 + 1) from (if_neg c81).trans (if_neg c135)] at h; exact h)
    · refine wp_rload_0 dX7_drift_84 ?_
      refine wp_getR (t := 121) fX7_7 dX7_drift_85 kd_120 rfl (rf_120_0) ?_
      refine wp_bipush (v := 37) dX7_drift_88 rfl ?_
      refine wp_rload_0 dX7_drift_90 ?_
      refine wp_getR (t := 121) fX7_7 dX7_drift_91 kd_120 rfl (rf_120_0) ?_
      refine wp_bipush (v := 37) dX7_drift_94 rfl ?_
      refine wp_aldF (j := 37) dX7_drift_96 ar_121 (rfl) (by omega) ?_
      refine wp_i2l dX7_drift_97 ?_
      refine wp_ldc2 nX7_175 dX7_drift_98 ?_
      refine wp_lmul dX7_drift_101 ?_
      refine wp_ldc2 nX7_177 dX7_drift_102 ?_
      refine wp_ladd dX7_drift_105 ?_
      refine wp_ldc2 nX7_179 dX7_drift_106 ?_
      refine wp_lrem dX7_drift_109 (by decide) ?_
      refine wp_l2i dX7_drift_110 ?_
      refine wp_astF (j := 37) dX7_drift_111 ar_121 (rfl) (by omega) ?_
      refine wp_rload_0 dX7_drift_112 ?_
      refine wp_getR (t := 121) fX7_7 dX7_drift_113 kd_120 rfl (rf_120_0) ?_
      refine wp_bipush (v := 37) dX7_drift_116 rfl ?_
      refine wp_aldF (j := 37) dX7_drift_118 ar_121 (rfl) (by omega) ?_
      refine wp_ldc nX7_181 dX7_drift_119 ?_
      refine wp_idiv dX7_drift_121 (by decide) ?_
      refine wp_bipush (v := 100) dX7_drift_122 rfl ?_
      refine wp_irem dX7_drift_124 (by decide) ?_
      refine wp_rload_0 dX7_drift_125 ?_
      refine wp_getR (t := 121) fX7_7 dX7_drift_126 kd_120 rfl (rf_120_0) ?_
      refine wp_bipush (v := 22) dX7_drift_129 rfl ?_
      refine wp_iload_5 dX7_drift_131 ?_
      refine wp_iadd dX7_drift_133 ?_
      refine wp_aldF (j := (22 + j)) dX7_drift_134 ar_121 (nI_add _ _) (by omega) ?_
      refine wp_icmp_ge (tgt := 147) dX7_drift_135 rfl (fun c135 => ?_) (fun c135 => ?_)
      · refine wp_iinc_5 (v := nI (j + 1)) dX7_drift_147 (nI_inc _) (Nat.le_of_ble_eq_true rfl) rfl ?_
        refine wp_goto (tgt := 56) dX7_drift_150 rfl ?_
        have h := ih (j + 1) (by omega)
        first
          | (rw [show blR f c (j + 1) = blR f c j from if_pos c81] at h; exact h)
          | (rw [show blR f c (j + 1) = (drH (blR f c j).1, (blR f c j).2) from (if_neg c81).trans (if_pos c135)] at h; exact h)
          | (rw [show blR f c (j + 1) = (flF (drH (blR f c j).1) j, (blR f c j).2 + 1) from (if_neg c81).trans (if_neg c135)] at h; exact h)
      · refine wp_rload_0 dX7_drift_138 ?_
        refine wp_iload_5 dX7_drift_139 ?_
        refine wp_callV_1 kX7_171 dX7_drift_141 kd_120 rfl (c_X7_fall (M := M) (by omega) ?_) ⟨Nat.le_of_ble_eq_true rfl, Nat.le_of_ble_eq_true rfl, Nat.le_of_ble_eq_true rfl⟩ (Nat.le_of_ble_eq_true rfl)
        refine wp_iinc_2 dX7_drift_144 rfl (Nat.le_of_ble_eq_true rfl) rfl ?_
        refine wp_iinc_5 (v := nI (j + 1)) dX7_drift_147 (nI_inc _) (Nat.le_of_ble_eq_true rfl) rfl ?_
        refine wp_goto (tgt := 56) dX7_drift_150 rfl ?_
        have h := ih (j + 1) (by omega)
        first
          | (rw [show blR f c (j + 1) = blR f c j from if_pos c81] at h; exact h)
          | (rw [show blR f c (j + 1) = (drH (blR f c j).1, (blR f c j).2) from (if_neg c81).trans (if_pos c135)] at h; exact h)
          | (rw [show blR f c (j + 1) = (flF (drH (blR f c j).1) j, (blR f c j).2 + 1) from (if_neg c81).trans (if_neg c135)] at h; exact h)
def dfF (g : Nat) : Nat → Nat → (Nat → Int32) → Int32 → (Nat → Int32) × Int32
  | 0, _, f, c => (f, c)
  | n + 1, u, f, c => dfF g n (nxU u) (blR (gosF g (rmF u f)).1 c (g - 1)).1 (blR (gosF g (rmF u f)).1 c (g - 1)).2
set_option maxRecDepth 100000 in
set_option maxHeartbeats 4000000 in
theorem l_X7_drift {κ : KX} {M : MM} {Q : Option Value → va_W → Prop} {g m : Nat} (h6 : g ≤ 6) (hm : m < 1000) : ∀ n j u (f : Nat → Int32) (c : Int32), j + n = m → f 0 = nI g → 0 < f 1 → f 38 = nI u → u ≤ 8 → Q (some (.int (dfF g n u f c).2)) (wM κ (rI M 121 (dfF g n u f c).1)) → WP κ (3, 0, 0) mX7_drift 35 [some (rv κ 120), some (.int (nI m)), some (.int c), some (.int (nI j)), none, none] [] (wM κ (rI M 121 f)) (0, 0) Q := by
  intro n
  induction n with
  | zero =>
    intro j u f c hn hg hy hu hu8 hQ
    refine wp_iload_3 dX7_drift_35 ?_
    refine wp_iload_1 dX7_drift_36 ?_
    refine wp_icmp_ge (tgt := 159) dX7_drift_37 rfl (fun c37 => ?_) (fun c37 => absurd (nI_le (by omega) (by omega)) c37)
    refine wp_iload_2 dX7_drift_159 ?_
    refine wp_iret dX7_drift_160 rfl rfl ?_
    exact hQ
  | succ n ih =>
    intro j u f c hn hg hy hu hu8 hQ
    refine wp_iload_3 dX7_drift_35 ?_
    refine wp_iload_1 dX7_drift_36 ?_
    refine wp_icmp_ge (tgt := 159) dX7_drift_37 rfl (fun c37 => absurd c37 (nI_ge (by omega) (by omega))) (fun c37 => ?_)
    refine wp_rload_0 dX7_drift_40 ?_
    refine wp_callV_0 kX7_153 dX7_drift_41 kd_120 rfl (c_X7_remember (M := M) hu hu8 ?_) ⟨Nat.le_of_ble_eq_true rfl, Nat.le_of_ble_eq_true rfl, Nat.le_of_ble_eq_true rfl⟩ (Nat.le_of_ble_eq_true rfl)
    refine wp_rload_0 dX7_drift_44 ?_
    refine wp_getR (t := 121) fX7_7 dX7_drift_45 kd_120 rfl (rf_120_0) ?_
    refine wp_callS_1 kX7_156 dX7_drift_48 (c_X7_goes (k := 121) (h := rmF u f) (g := g) ar_121 (by rw [rmF_lo _ _ (by decide)]; exact hg) h6 (by rw [rmF_lo _ _ (by decide)]; exact hy) ?_) ⟨Nat.le_of_ble_eq_true rfl, Nat.le_of_ble_eq_true rfl, Nat.le_of_ble_eq_true rfl⟩ (Nat.le_of_ble_eq_true rfl)
    refine wp_istore_4 dX7_drift_51 (Nat.le_of_ble_eq_true rfl) rfl ?_
    refine wp_iconst (v := 0) dX7_drift_53 rfl ?_
    refine wp_istore_5 dX7_drift_54 (Nat.le_of_ble_eq_true rfl) rfl ?_
    refine wp_drop_4 ?_
    refine l_X7_drift2 (f := (gosF g (rmF u f)).1) (g := g) (by rw [gosF_fr g h6 _ (by decide) (by decide), rmF_lo _ _ (by decide)]; exact hg) h6 ?_ (g - 1) 0 (by omega)
    refine wp_iinc_3 (v := nI (j + 1)) dX7_drift_153 (nI_inc _) (Nat.le_of_ble_eq_true rfl) rfl ?_
    refine wp_goto (tgt := 35) dX7_drift_156 rfl ?_
    refine wp_drop_5 ?_
    exact ih (j + 1) (nxU u) _ _ (by omega) (by rw [blR_fr _ _ (by decide) (by decide) _ (by omega), gosF_fr g h6 _ (by decide) (by decide), rmF_lo _ _ (by decide)]; exact hg) (by rw [blR_fr _ _ (by decide) (by decide) _ (by omega), gosF_fr g h6 _ (by decide) (by decide), rmF_lo _ _ (by decide)]; exact hy) (by rw [blR_fr _ _ (by decide) (by decide) _ (by omega), gosF_fr g h6 _ (by decide) (by decide)]; exact rmF_38 hu hu8) nxU_le hQ
def tDf (f : Nat → Int32) (g u : Nat) (x : Int32) : (Nat → Int32) × Int32 := if wi x 1 52 = 0 then (f, -1) else if f 3 + x ≤ 9999 then dfF g (cl x) u f 0 else (f, -3)
set_option maxRecDepth 100000 in
set_option maxHeartbeats 4000000 in
theorem c_X7_drift {κ : KX} {M : MM} {Q : Option Value → va_W → Prop} {f : Nat → Int32} {g u : Nat} {x : Int32} (hg : f 0 = nI g) (h6 : g ≤ 6) (hy : 0 < f 1) (hu : f 38 = nI u) (hu8 : u ≤ 8) (hQ : Q (some (.int (tDf f g u x).2)) (wM κ (rI M 121 (tDf f g u x).1))) : CT κ (3, 0, 0) mX7_drift [rv κ 120, .int x] (wM κ (rI M 121 f)) Q := by
  refine CT.of okX7_drift [some (rv κ 120), some (.int x), none, none, none, none] (Nat.le_of_ble_eq_true rfl) rfl ?_
  refine wp_iload_1 dX7_drift_0 ?_
  refine wp_i2l dX7_drift_1 ?_
  refine wp_lconst (v := 1) dX7_drift_2 rfl ?_
  refine wp_ldc2 nX7_94 dX7_drift_3 ?_
  refine wp_callS_3 kX7_43 dX7_drift_6 (c_X7_in (lo := 1) (hi := 52) (by decide) (by decide) ?_) ⟨Nat.le_of_ble_eq_true rfl, Nat.le_of_ble_eq_true rfl, Nat.le_of_ble_eq_true rfl⟩ (Nat.le_of_ble_eq_true rfl)
  refine wp_if_ne (tgt := 14) dX7_drift_9 rfl (fun c9 => ?_) (fun c9 => ?_)
  · obtain ⟨m, hm1, hm2, rfl⟩ := rng_of (a := 1) (b := 52) c9 (by decide) (by decide)
    rw [tDf, if_neg c9, cl_nI (by omega)] at hQ
    refine wp_rload_0 dX7_drift_14 ?_
    refine wp_getR (t := 121) fX7_7 dX7_drift_15 kd_120 rfl (rf_120_0) ?_
    refine wp_iconst (v := 3) dX7_drift_18 rfl ?_
    refine wp_aldF (j := 3) dX7_drift_19 ar_121 (rfl) (by omega) ?_
    refine wp_iload_1 dX7_drift_20 ?_
    refine wp_iadd dX7_drift_21 ?_
    refine wp_sipush (v := 9999) dX7_drift_22 rfl ?_
    refine wp_icmp_le (tgt := 31) dX7_drift_25 rfl (fun c25 => ?_) (fun c25 => ?_)
    · refine wp_iconst (v := 0) dX7_drift_31 rfl ?_
      refine wp_istore_2 dX7_drift_32 (Nat.le_of_ble_eq_true rfl) rfl ?_
      refine wp_iconst (v := 0) dX7_drift_33 rfl ?_
      refine wp_istore_3 dX7_drift_34 (Nat.le_of_ble_eq_true rfl) rfl ?_
      rw [if_pos c25] at hQ
      exact l_X7_drift h6 (by omega) m 0 u f 0 (by omega) hg hy hu hu8 hQ
    · refine wp_bipush (v := (-3)) dX7_drift_28 rfl ?_
      refine wp_iret dX7_drift_30 rfl rfl ?_
      rw [if_neg c25] at hQ
      exact hQ
  · refine wp_iconst (v := (-1)) dX7_drift_12 rfl ?_
    refine wp_iret dX7_drift_13 rfl rfl ?_
    rw [tDf, if_pos c9] at hQ
    exact hQ
def un1 (f : Nat → Int32) (u : Nat) : Nat → Int32 := cpS (upd f 38 (nI u)) (39 + 23 * u) 16 22
def unF (f : Nat → Int32) (u : Nat) : Nat → Int32 := upd (un1 f u) 3 (un1 f u (39 + 23 * u + 22))
def tUn (f : Nat → Int32) (u : Nat) : (Nat → Int32) × Int32 := if u = 0 then (f, -4) else (unF f (u - 1), nI (u - 1))
set_option maxRecDepth 100000 in
set_option maxHeartbeats 4000000 in
theorem c_X7_undo {κ : KX} {M : MM} {Q : Option Value → va_W → Prop} {f : Nat → Int32} {u : Nat} (hu : f 38 = nI u) (hu8 : u ≤ 8) (hQ : Q (some (.int (tUn f u).2)) (wM κ (rI M 121 (tUn f u).1))) : CT κ (1, 0, 0) mX7_undo [rv κ 120] (wM κ (rI M 121 f)) Q := by
  refine CT.of okX7_undo [some (rv κ 120), none] (Nat.le_of_ble_eq_true rfl) rfl ?_
  refine wp_rload_0 dX7_undo_0 ?_
  refine wp_getR (t := 121) fX7_7 dX7_undo_1 kd_120 rfl (rf_120_0) ?_
  refine wp_bipush (v := 38) dX7_undo_4 rfl ?_
  refine wp_aldF (j := 38) dX7_undo_6 ar_121 (rfl) (by omega) ?_
  rw [hu]
  refine wp_if_ne (tgt := 13) dX7_undo_7 rfl (fun c7 => ?_) (fun c7 => ?_)
  · have hu0 : ¬ u = 0 := fun e => c7 (by rw [e]; rfl)
    rw [tUn, if_neg hu0] at hQ
    refine wp_rload_0 dX7_undo_13 ?_
    refine wp_getR (t := 121) fX7_7 dX7_undo_14 kd_120 rfl (rf_120_0) ?_
    refine wp_bipush (v := 38) dX7_undo_17 rfl ?_
    refine wp_dup2_iv dX7_undo_19 ?_
    refine wp_aldF (j := 38) dX7_undo_20 ar_121 (rfl) (by omega) ?_
    rw [hu]
    refine wp_iconst (v := 1) dX7_undo_21 rfl ?_
    refine wp_isub dX7_undo_22 ?_
    rw [nI_sub1 (show 1 ≤ u by omega)]
    refine wp_astF (j := 38) dX7_undo_23 ar_121 (rfl) (by omega) ?_
    refine wp_bipush (v := 39) dX7_undo_24 rfl ?_
    refine wp_bipush (v := 23) dX7_undo_26 rfl ?_
    refine wp_rload_0 dX7_undo_28 ?_
    refine wp_getR (t := 121) fX7_7 dX7_undo_29 kd_120 rfl (rf_120_0) ?_
    refine wp_bipush (v := 38) dX7_undo_32 rfl ?_
    refine wp_aldF (j := 38) dX7_undo_34 ar_121 (rfl) (by omega) ?_
    rw [show upd f 38 (nI (u - 1)) 38 = nI (u - 1) from if_pos rfl]
    refine wp_imul dX7_undo_35 ?_
    refine wp_iadd dX7_undo_36 ?_
    rw [ix39]
    refine wp_istore_1 dX7_undo_37 (Nat.le_of_ble_eq_true rfl) rfl ?_
    refine wp_rload_0 dX7_undo_38 ?_
    refine wp_getR (t := 121) fX7_7 dX7_undo_39 kd_120 rfl (rf_120_0) ?_
    refine wp_iload_1 dX7_undo_42 ?_
    refine wp_rload_0 dX7_undo_43 ?_
    refine wp_getR (t := 121) fX7_7 dX7_undo_44 kd_120 rfl (rf_120_0) ?_
    refine wp_bipush (v := 16) dX7_undo_47 rfl ?_
    refine wp_bipush (v := 22) dX7_undo_49 rfl ?_
    refine wp_callS_5 kX7_139 dX7_undo_51 (c_X7_copiesS (k := 121) (a := 39 + 23 * (u - 1)) (b := 16) (m := 22) ar_121 (by omega) (by decide) ?_) ⟨Nat.le_of_ble_eq_true rfl, Nat.le_of_ble_eq_true rfl, Nat.le_of_ble_eq_true rfl⟩ (Nat.le_of_ble_eq_true rfl)
    refine wp_rload_0 dX7_undo_54 ?_
    refine wp_getR (t := 121) fX7_7 dX7_undo_55 kd_120 rfl (rf_120_0) ?_
    refine wp_iconst (v := 3) dX7_undo_58 rfl ?_
    refine wp_rload_0 dX7_undo_59 ?_
    refine wp_getR (t := 121) fX7_7 dX7_undo_60 kd_120 rfl (rf_120_0) ?_
    refine wp_iload_1 dX7_undo_63 ?_
    refine wp_bipush (v := 22) dX7_undo_64 rfl ?_
    refine wp_iadd dX7_undo_66 ?_
    refine wp_aldF (j := ((39 + 23 * (u - 1)) + 22)) dX7_undo_67 ar_121 (nI_add _ _) (by omega) ?_
    refine wp_astF (j := 3) dX7_undo_68 ar_121 (rfl) (by omega) ?_
    refine wp_rload_0 dX7_undo_69 ?_
    refine wp_getR (t := 121) fX7_7 dX7_undo_70 kd_120 rfl (rf_120_0) ?_
    refine wp_bipush (v := 38) dX7_undo_73 rfl ?_
    refine wp_aldF (j := 38) dX7_undo_75 ar_121 (rfl) (by omega) ?_
    refine wp_iret dX7_undo_76 rfl rfl ?_
    refine Qe hQ ?_ rfl
    show upd (un1 f (u - 1)) 3 _ 38 = _
    simp only [upd]
    rw [if_neg (by decide), un1, cpS_out _ _ _ _ (by omega)]
    simp [upd]
  · refine wp_bipush (v := (-4)) dX7_undo_10 rfl ?_
    refine wp_iret dX7_undo_12 rfl rfl ?_
    have hu0 : u = 0 := (nI_eq (a := u) (b := 0) (by omega) (by decide)).mp c7
    rw [tUn, if_pos hu0] at hQ
    exact hQ
