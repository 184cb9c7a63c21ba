/-! the reference: the tape -/
def rS (M : MM) (d : Nat → Int32) (p : Nat) (e mo : Int32) : MM := rI (sI (sI (sI M 120 10 (nI p)) 120 11 e) 120 12 mo) 123 d
section RSL
variable (M : MM) (d : Nat → Int32) (p : Nat) (e mo v : Int32) (j : Nat)
theorem rS_10 : (rS M d p e mo).1 120 10 = nI p := rfl
theorem rS_11 : (rS M d p e mo).1 120 11 = e := rfl
theorem rS_12 : (rS M d p e mo).1 120 12 = mo := rfl
theorem rS_6 : (rS M d p e mo).1 120 6 = M.1 120 6 := rfl
theorem rS_123 : (rS M d p e mo).1 123 = d := rfl
theorem rS_125 : (rS M d p e mo).1 125 = M.1 125 := rfl
theorem mm_ext {A B : MM} (h1 : ∀ a b, A.1 a b = B.1 a b) (h2 : A.2 = B.2) : A = B := Prod.ext (funext fun a => funext fun b => h1 a b) h2
theorem rS_w (q : Nat) : sI (rS M d p e mo) 120 10 (nI q) = rS M d q e mo := by
  refine mm_ext (fun a b => ?_) rfl
  simp only [rS, rI, sI, upd]
  by_cases h0 : a = 120
  · subst h0
    by_cases h1 : b = 10
    · subst h1; rfl
    · simp [upd, h1]
  · simp [h0]
theorem rS_p : sI (rS M d p e mo) 120 10 (nI p + 1) = rS M d (p + 1) e mo := by rw [nI_1]; exact rS_w M d p e mo (p + 1)
theorem rS_e : sI (rS M d p e mo) 120 11 v = rS M d p v mo := by
  refine mm_ext (fun a b => ?_) rfl
  simp only [rS, rI, sI, upd]
  by_cases h0 : a = 120
  · subst h0
    by_cases h1 : b = 11
    · subst h1; rfl
    · simp [upd, h1]
  · simp [h0]
theorem rS_m : sI (rS M d p e mo) 120 12 v = rS M d p e v := by
  refine mm_ext (fun a b => ?_) rfl
  simp only [rS, rI, sI, upd]
  by_cases h0 : a = 120
  · subst h0
    by_cases h1 : b = 12
    · subst h1; rfl
    · simp [upd, h1]
  · simp [h0]
theorem rS_d : sI (rS M d p e mo) 123 j v = rS M (upd d j v) p e mo := sI_rI _ _ _ _ _
theorem rS_of : sI (rI M 123 d) 120 10 0 = rS M d 0 (M.1 120 11) (M.1 120 12) := by
  refine mm_ext (fun a b => ?_) rfl
  simp only [rS, rI, sI, upd]
  by_cases h0 : a = 120
  · subst h0
    by_cases h1 : b = 10
    · subst h1; rfl
    · by_cases h2 : b = 11
      · subst h2; rfl
      · by_cases h3 : b = 12
        · subst h3; rfl
        · simp [upd, h1, h2, h3]
  · simp [h0]
end RSL
theorem wi_1 {x a b : Int32} (h : ¬ wi x a b = 0) : wi x a b = 1 := by
  unfold wi at h ⊢
  by_cases h1 : x < a
  · rw [if_pos h1] at h; exact absurd rfl h
  · by_cases h2 : b < x
    · rw [if_neg h1, if_pos h2] at h; exact absurd rfl h
    · rw [if_neg h1, if_neg h2]
def hrv (T : Nat → Int32) (L p : Nat) : Int32 := if L ≤ sk T L p then -1 else T (sk T L p)
def fgF (T : Nat → Int32) (L p : Nat) : Int32 := if L ≤ p then 0 else wi (T p) 48 57
set_option maxRecDepth 100000 in
set_option maxHeartbeats 4000000 in
theorem l_X7_here {κ : KX} {M : MM} {Q : Option Value → va_W → Prop} {d : Nat → Int32} {L : Nat} {e mo : Int32} (hL : M.1 120 6 = nI L) (h60 : L ≤ 60) : ∀ n p, p ≤ 1000 → L - p = n → Q (some (.int (if L ≤ skn (M.1 125) n p then -1 else M.1 125 (skn (M.1 125) n p)))) (wM κ (rS M d (skn (M.1 125) n p) e mo)) → WP κ (0, 0, 0) mX7_here 0 [some (rv κ 120)] [] (wM κ (rS M d p e mo)) (0, 0) Q := by
  intro n
  induction n with
  | zero =>
    intro p hp0 hn hQ
    refine wp_rload_0 dX7_here_0 ?_
    refine wp_getI fX7_102 dX7_here_1 kd_120 rfl ?_
    rw [rS_10]
    refine wp_rload_0 dX7_here_4 ?_
    refine wp_getI fX7_98 dX7_here_5 kd_120 rfl ?_
    rw [rS_6, hL]
    refine wp_icmp_ge (tgt := 38) dX7_here_8 rfl (fun c8 => ?_) (fun c8 => absurd (nI_le (by omega) (by omega)) c8)
    refine wp_rload_0 dX7_here_38 ?_
    refine wp_getI fX7_102 dX7_here_39 kd_120 rfl ?_
    rw [rS_10]
    refine wp_rload_0 dX7_here_42 ?_
    refine wp_getI fX7_98 dX7_here_43 kd_120 rfl ?_
    rw [rS_6, hL]
    refine wp_icmp_ge (tgt := 61) dX7_here_46 rfl (fun c46 => ?_) (fun c46 => absurd (nI_le (by omega) (by omega)) c46)
    refine wp_iconst (v := (-1)) dX7_here_61 rfl ?_
    refine wp_iret dX7_here_62 rfl rfl ?_
    exact Qe hQ (by rw [skn, if_pos (by omega)]) rfl
  | succ n ih =>
    intro p hp0 hn hQ
    refine wp_rload_0 dX7_here_0 ?_
    refine wp_getI fX7_102 dX7_here_1 kd_120 rfl ?_
    rw [rS_10]
    refine wp_rload_0 dX7_here_4 ?_
    refine wp_getI fX7_98 dX7_here_5 kd_120 rfl ?_
    rw [rS_6, hL]
    refine wp_icmp_ge (tgt := 38) dX7_here_8 rfl (fun c8 => absurd c8 (nI_ge (by omega) (by omega))) (fun c8 => ?_)
    refine wp_rload_0 dX7_here_11 ?_
    refine wp_getR (t := 125) fX7_22 dX7_here_12 kd_120 rfl (rf_120_5) ?_
    refine wp_rload_0 dX7_here_15 ?_
    refine wp_getI fX7_102 dX7_here_16 kd_120 rfl ?_
    rw [rS_10]
    refine wp_ald (j := p) dX7_here_19 ar_125 (rfl) (by omega) ?_
    rw [rS_125]
    refine wp_bipush (v := 32) dX7_here_20 rfl ?_
    refine wp_icmp_ne (tgt := 38) dX7_here_22 rfl (fun c22 => ?_) (fun c22 => ?_)
    · refine wp_rload_0 dX7_here_38 ?_
      refine wp_getI fX7_102 dX7_here_39 kd_120 rfl ?_
      rw [rS_10]
      refine wp_rload_0 dX7_here_42 ?_
      refine wp_getI fX7_98 dX7_here_43 kd_120 rfl ?_
      rw [rS_6, hL]
      refine wp_icmp_ge (tgt := 61) dX7_here_46 rfl (fun c46 => absurd c46 (nI_ge (by omega) (by omega))) (fun c46 => ?_)
      refine wp_rload_0 dX7_here_49 ?_
      refine wp_getR (t := 125) fX7_22 dX7_here_50 kd_120 rfl (rf_120_5) ?_
      refine wp_rload_0 dX7_here_53 ?_
      refine wp_getI fX7_102 dX7_here_54 kd_120 rfl ?_
      rw [rS_10]
      refine wp_ald (j := p) dX7_here_57 ar_125 (rfl) (by omega) ?_
      rw [rS_125]
      refine wp_goto (tgt := 62) dX7_here_58 rfl ?_
      refine wp_iret dX7_here_62 rfl rfl ?_
      have ee : skn (M.1 125) (n + 1) p = p := if_neg c22
      rw [ee] at hQ
      exact Qe hQ (by rw [if_neg (by omega)]) rfl
    · refine wp_rload_0 dX7_here_25 ?_
      refine wp_dup_rv dX7_here_26 ?_
      refine wp_getI fX7_102 dX7_here_27 kd_120 rfl ?_
      rw [rS_10]
      refine wp_iconst (v := 1) dX7_here_30 rfl ?_
      refine wp_iadd dX7_here_31 ?_
      refine wp_putI fX7_102 dX7_here_32 kd_120 rfl rfl ?_
      rw [rS_p]
      refine wp_goto (tgt := 0) dX7_here_35 rfl ?_
      have ee : skn (M.1 125) (n + 1) p = skn (M.1 125) n (p + 1) := if_pos c22
      rw [ee] at hQ
      exact ih (p + 1) (by omega) (by omega) hQ
set_option maxRecDepth 100000 in
set_option maxHeartbeats 4000000 in
theorem c_X7_here {κ : KX} {M : MM} {Q : Option Value → va_W → Prop} {d : Nat → Int32} {L p : Nat} {e mo : Int32} (hL : M.1 120 6 = nI L) (h60 : L ≤ 60) (hp0 : p ≤ 1000) (hQ : Q (some (.int (hrv (M.1 125) L p))) (wM κ (rS M d (sk (M.1 125) L p) e mo))) : CT κ (0, 0, 0) mX7_here [rv κ 120] (wM κ (rS M d p e mo)) Q := by
  refine CT.of okX7_here [some (rv κ 120)] (Nat.le_of_ble_eq_true rfl) rfl ?_
  exact l_X7_here hL h60 _ p hp0 rfl hQ
set_option maxRecDepth 100000 in
set_option maxHeartbeats 4000000 in
theorem c_X7_isFigure {κ : KX} {M : MM} {Q : Option Value → va_W → Prop} {d : Nat → Int32} {L p : Nat} {e mo : Int32}  (hL : M.1 120 6 = nI L) (h60 : L ≤ 60) (hp0 : p ≤ 1000) (hQ : Q (some (.int (fgF (M.1 125) L p))) (wM κ (rS M d p e mo))) : CT κ (1, 0, 0) mX7_isFigure [rv κ 120] (wM κ (rS M d p e mo)) Q := by
  refine CT.of okX7_isFigure [some (rv κ 120)] (Nat.le_of_ble_eq_true rfl) rfl ?_
  refine wp_rload_0 dX7_isFigure_0 ?_
  refine wp_getI fX7_102 dX7_isFigure_1 kd_120 rfl ?_
  rw [rS_10]
  refine wp_rload_0 dX7_isFigure_4 ?_
  refine wp_getI fX7_98 dX7_isFigure_5 kd_120 rfl ?_
  rw [rS_6, hL]
  refine wp_icmp_ge (tgt := 37) dX7_isFigure_8 rfl (fun c8 => ?_) (fun c8 => ?_)
  · have hpl : L ≤ p := Nat.le_of_not_lt (fun q => nI_ge q (by omega) c8)
    refine wp_iconst (v := 0) dX7_isFigure_37 rfl ?_
    refine wp_zret dX7_isFigure_38 rfl rfl rfl ?_
    first
      | exact Qe hQ (by rw [fgF, if_pos hpl]) rfl
      | exact Qe hQ (by rw [fgF, if_neg hpl, c30]) rfl
      | exact Qe hQ (by rw [fgF, if_neg hpl]; exact (wi_1 c30).symm) rfl
  · have hpl : ¬ L ≤ p := fun q => c8 (nI_le q (by omega))
    refine wp_rload_0 dX7_isFigure_11 ?_
    refine wp_getR (t := 125) fX7_22 dX7_isFigure_12 kd_120 rfl (rf_120_5) ?_
    refine wp_rload_0 dX7_isFigure_15 ?_
    refine wp_getI fX7_102 dX7_isFigure_16 kd_120 rfl ?_
    rw [rS_10]
    refine wp_ald (j := p) dX7_isFigure_19 ar_125 (rfl) (by omega) ?_
    rw [rS_125]
    refine wp_i2l dX7_isFigure_20 ?_
    refine wp_ldc2 nX7_105 dX7_isFigure_21 ?_
    refine wp_ldc2 nX7_107 dX7_isFigure_24 ?_
    refine wp_callS_3 kX7_43 dX7_isFigure_27 (c_X7_in (lo := 48) (hi := 57) (by decide) (by decide) ?_) ⟨Nat.le_of_ble_eq_true rfl, Nat.le_of_ble_eq_true rfl, Nat.le_of_ble_eq_true rfl⟩ (Nat.le_of_ble_eq_true rfl)
    refine wp_if_eq (tgt := 37) dX7_isFigure_30 rfl (fun c30 => ?_) (fun c30 => ?_)
    · refine wp_iconst (v := 0) dX7_isFigure_37 rfl ?_
      refine wp_zret dX7_isFigure_38 rfl rfl rfl ?_
      first
        | exact Qe hQ (by rw [fgF, if_pos hpl]) rfl
        | exact Qe hQ (by rw [fgF, if_neg hpl, c30]) rfl
        | exact Qe hQ (by rw [fgF, if_neg hpl]; exact (wi_1 c30).symm) rfl
    · refine wp_iconst (v := 1) dX7_isFigure_33 rfl ?_
      refine wp_goto (tgt := 38) dX7_isFigure_34 rfl ?_
      refine wp_zret dX7_isFigure_38 rfl rfl rfl ?_
      first
        | exact Qe hQ (by rw [fgF, if_pos hpl]) rfl
        | exact Qe hQ (by rw [fgF, if_neg hpl, c30]) rfl
        | exact Qe hQ (by rw [fgF, if_neg hpl]; exact (wi_1 c30).symm) rfl
def yrA (T : Nat → Int32) (L p : Nat) : Nat := if fgF T L (sk T L p + 1) = 0 then sk T L p + 1 else sk T L p + 1 + 1
def yrV (T : Nat → Int32) (L p : Nat) : Int32 := if fgF T L (sk T L p + 1) = 0 then hrv T L p - 48 else 10 * (hrv T L p - 48) + T (sk T L p + 1) - 48
def tYr (T : Nat → Int32) (L : Nat) (d : Nat → Int32) (p : Nat) : (Nat → Int32) × Nat × Int32 × Int32 := if wi (hrv T L p) 48 57 = 0 then (d, sk T L p, nI (sk T L p), 0) else if wi (yrV T L p) 2 52 = 0 then (d, yrA T L p, nI (sk T L p), 0) else (upd d 1 (yrV T L p), sk T L (yrA T L p) + 1, nI (sk T L (yrA T L p)), if ¬ hrv T L (yrA T L p) = 59 then 0 else 1)
theorem fgF_lt {T : Nat → Int32} {L p : Nat} (h : ¬ fgF T L p = 0) : p < L := by
  rcases Nat.lt_or_ge p L with q | q
  · exact q
  · exact absurd (if_pos q) h
set_option maxRecDepth 100000 in
set_option maxHeartbeats 4000000 in
theorem x_X7_readsYear {κ : KX} {M : MM} {Q : Option Value → va_W → Prop} {d : Nat → Int32} {L p : Nat} {x mo : Int32} (hL : M.1 120 6 = nI L) (h60 : L ≤ 60) (hya : yrA (M.1 125) L p ≤ 900) (c24 : ¬ wi (hrv (M.1 125) L p) 48 57 = 0) (hQ : Q (some (.int (tYr (M.1 125) L d p).2.2.2)) (wM κ (rS M (tYr (M.1 125) L d p).1 (tYr (M.1 125) L d p).2.1 (tYr (M.1 125) L d p).2.2.1 mo))) : WP κ (2, 0, 0) mX7_readsYear 79 [some (rv κ 120), some (.int x), some (.int (yrV (M.1 125) L p))] [] (wM κ (rS M d (yrA (M.1 125) L p) (nI (sk (M.1 125) L p)) mo)) (0, 0) Q := by
  refine wp_iload_2 dX7_readsYear_79 ?_
  refine wp_i2l dX7_readsYear_80 ?_
  refine wp_ldc2 nX7_92 dX7_readsYear_81 ?_
  refine wp_ldc2 nX7_94 dX7_readsYear_84 ?_
  refine wp_callS_3 kX7_43 dX7_readsYear_87 (c_X7_in (lo := 2) (hi := 52) (by decide) (by decide) ?_) ⟨Nat.le_of_ble_eq_true rfl, Nat.le_of_ble_eq_true rfl, Nat.le_of_ble_eq_true rfl⟩ (Nat.le_of_ble_eq_true rfl)
  refine wp_if_ne (tgt := 95) dX7_readsYear_90 rfl (fun c90 => ?_) (fun c90 => ?_)
  · rw [tYr, if_neg c24, if_neg c90] at hQ
    refine wp_rload_0 dX7_readsYear_95 ?_
    refine wp_getR (t := 123) fX7_16 dX7_readsYear_96 kd_120 rfl (rf_120_2) ?_
    refine wp_iconst (v := 1) dX7_readsYear_99 rfl ?_
    refine wp_iload_2 dX7_readsYear_100 ?_
    refine wp_ast (j := 1) dX7_readsYear_101 ar_123 (rfl) (by omega) ?_
    rw [rS_d]
    refine wp_rload_0 dX7_readsYear_102 ?_
    refine wp_callV_0 kX7_109 dX7_readsYear_103 kd_120 rfl (c_X7_here (L := L) hL h60 (by omega) ?_) ⟨Nat.le_of_ble_eq_true rfl, Nat.le_of_ble_eq_true rfl, Nat.le_of_ble_eq_true rfl⟩ (Nat.le_of_ble_eq_true rfl)
    refine wp_istore_1 dX7_readsYear_106 (Nat.le_of_ble_eq_true rfl) rfl ?_
    refine wp_rload_0 dX7_readsYear_107 ?_
    refine wp_rload_0 dX7_readsYear_108 ?_
    refine wp_getI fX7_102 dX7_readsYear_109 kd_120 rfl ?_
    rw [rS_10]
    refine wp_putI fX7_113 dX7_readsYear_112 kd_120 rfl rfl ?_
    rw [rS_e]
    refine wp_rload_0 dX7_readsYear_115 ?_
    refine wp_dup_rv dX7_readsYear_116 ?_
    refine wp_getI fX7_102 dX7_readsYear_117 kd_120 rfl ?_
    rw [rS_10]
    refine wp_iconst (v := 1) dX7_readsYear_120 rfl ?_
    refine wp_iadd dX7_readsYear_121 ?_
    refine wp_putI fX7_102 dX7_readsYear_122 kd_120 rfl rfl ?_
    rw [rS_p]
    refine wp_iload_1 dX7_readsYear_125 ?_
    refine wp_bipush (v := 59) dX7_readsYear_126 rfl ?_
    refine wp_icmp_ne (tgt := 135) dX7_readsYear_128 rfl (fun c128 => ?_) (fun c128 => ?_)
    · refine wp_iconst (v := 0) dX7_readsYear_135 rfl ?_
      refine wp_zret dX7_readsYear_136 rfl rfl rfl ?_
      first
        | exact Qe hQ (if_pos c128).symm rfl
        | exact Qe hQ (if_neg (fun q => q c128)).symm rfl
    · refine wp_iconst (v := 1) dX7_readsYear_131 rfl ?_
      refine wp_goto (tgt := 136) dX7_readsYear_132 rfl ?_
      refine wp_zret dX7_readsYear_136 rfl rfl rfl ?_
      first
        | exact Qe hQ (if_pos c128).symm rfl
        | exact Qe hQ (if_neg (fun q => q c128)).symm rfl
  · refine wp_iconst (v := 0) dX7_readsYear_93 rfl ?_
    refine wp_zret dX7_readsYear_94 rfl rfl rfl ?_
    rw [tYr, if_neg c24, if_pos c90] at hQ
    exact hQ
set_option maxRecDepth 100000 in
set_option maxHeartbeats 4000000 in
theorem c_X7_readsYear {κ : KX} {M : MM} {Q : Option Value → va_W → Prop} {d : Nat → Int32} {L p : Nat} {e mo : Int32}  (hL : M.1 120 6 = nI L) (h60 : L ≤ 60) (hp0 : p ≤ 800) (hQ : Q (some (.int (tYr (M.1 125) L d p).2.2.2)) (wM κ (rS M (tYr (M.1 125) L d p).1 (tYr (M.1 125) L d p).2.1 (tYr (M.1 125) L d p).2.2.1 mo))) : CT κ (2, 0, 0) mX7_readsYear [rv κ 120] (wM κ (rS M d p e mo)) Q := by
  refine CT.of okX7_readsYear [some (rv κ 120), none, none] (Nat.le_of_ble_eq_true rfl) rfl ?_
  refine wp_rload_0 dX7_readsYear_0 ?_
  refine wp_callV_0 kX7_109 dX7_readsYear_1 kd_120 rfl (c_X7_here (L := L) hL h60 (by omega) ?_) ⟨Nat.le_of_ble_eq_true rfl, Nat.le_of_ble_eq_true rfl, Nat.le_of_ble_eq_true rfl⟩ (Nat.le_of_ble_eq_true rfl)
  refine wp_istore_1 dX7_readsYear_4 (Nat.le_of_ble_eq_true rfl) rfl ?_
  have hsk : sk (M.1 125) L p ≤ 800 := sk_le hp0 (by omega)
  refine wp_rload_0 dX7_readsYear_5 ?_
  refine wp_rload_0 dX7_readsYear_6 ?_
  refine wp_getI fX7_102 dX7_readsYear_7 kd_120 rfl ?_
  rw [rS_10]
  refine wp_putI fX7_113 dX7_readsYear_10 kd_120 rfl rfl ?_
  rw [rS_e]
  refine wp_iload_1 dX7_readsYear_13 ?_
  refine wp_i2l dX7_readsYear_14 ?_
  refine wp_ldc2 nX7_105 dX7_readsYear_15 ?_
  refine wp_ldc2 nX7_107 dX7_readsYear_18 ?_
  refine wp_callS_3 kX7_43 dX7_readsYear_21 (c_X7_in (lo := 48) (hi := 57) (by decide) (by decide) ?_) ⟨Nat.le_of_ble_eq_true rfl, Nat.le_of_ble_eq_true rfl, Nat.le_of_ble_eq_true rfl⟩ (Nat.le_of_ble_eq_true rfl)
  refine wp_if_ne (tgt := 29) dX7_readsYear_24 rfl (fun c24 => ?_) (fun c24 => ?_)
  · refine wp_iload_1 dX7_readsYear_29 ?_
    refine wp_bipush (v := 48) dX7_readsYear_30 rfl ?_
    refine wp_isub dX7_readsYear_32 ?_
    refine wp_istore_2 dX7_readsYear_33 (Nat.le_of_ble_eq_true rfl) rfl ?_
    refine wp_rload_0 dX7_readsYear_34 ?_
    refine wp_dup_rv dX7_readsYear_35 ?_
    refine wp_getI fX7_102 dX7_readsYear_36 kd_120 rfl ?_
    rw [rS_10]
    refine wp_iconst (v := 1) dX7_readsYear_39 rfl ?_
    refine wp_iadd dX7_readsYear_40 ?_
    refine wp_putI fX7_102 dX7_readsYear_41 kd_120 rfl rfl ?_
    rw [rS_p]
    refine wp_rload_0 dX7_readsYear_44 ?_
    refine wp_callV_0 kX7_116 dX7_readsYear_45 kd_120 rfl (c_X7_isFigure (L := L) hL h60 (by omega) ?_) ⟨Nat.le_of_ble_eq_true rfl, Nat.le_of_ble_eq_true rfl, Nat.le_of_ble_eq_true rfl⟩ (Nat.le_of_ble_eq_true rfl)
    refine wp_if_eq (tgt := 79) dX7_readsYear_48 rfl (fun c48 => ?_) (fun c48 => ?_)
    · have hya : yrA (M.1 125) L p ≤ 900 := by unfold yrA; split <;> omega
      first
        | (rw [show hrv (M.1 125) L p - 48 = yrV (M.1 125) L p from (if_pos c48).symm, show sk (M.1 125) L p + 1 = yrA (M.1 125) L p from (if_pos c48).symm]
           exact x_X7_readsYear hL h60 hya c24 hQ)
        | (rw [show 10 * (hrv (M.1 125) L p - 48) + M.1 125 (sk (M.1 125) L p + 1) - 48 = yrV (M.1 125) L p from (if_neg c48).symm, show sk (M.1 125) L p + 1 + 1 = yrA (M.1 125) L p from (if_neg c48).symm]
           exact x_X7_readsYear hL h60 hya c24 hQ)
    · have hfl := fgF_lt c48
      refine wp_bipush (v := 10) dX7_readsYear_51 rfl ?_
      refine wp_iload_2 dX7_readsYear_53 ?_
      refine wp_imul dX7_readsYear_54 ?_
      refine wp_rload_0 dX7_readsYear_55 ?_
      refine wp_getR (t := 125) fX7_22 dX7_readsYear_56 kd_120 rfl (rf_120_5) ?_
      refine wp_rload_0 dX7_readsYear_59 ?_
      refine wp_getI fX7_102 dX7_readsYear_60 kd_120 rfl ?_
      rw [rS_10]
      refine wp_ald (j := (sk (M.1 125) L p + 1)) dX7_readsYear_63 ar_125 (rfl) (by omega) ?_
      rw [rS_125]
      refine wp_iadd dX7_readsYear_64 ?_
      refine wp_bipush (v := 48) dX7_readsYear_65 rfl ?_
      refine wp_isub dX7_readsYear_67 ?_
      refine wp_istore_2 dX7_readsYear_68 (Nat.le_of_ble_eq_true rfl) rfl ?_
      refine wp_rload_0 dX7_readsYear_69 ?_
      refine wp_dup_rv dX7_readsYear_70 ?_
      refine wp_getI fX7_102 dX7_readsYear_71 kd_120 rfl ?_
      rw [rS_10]
      refine wp_iconst (v := 1) dX7_readsYear_74 rfl ?_
      refine wp_iadd dX7_readsYear_75 ?_
      refine wp_putI fX7_102 dX7_readsYear_76 kd_120 rfl rfl ?_
      rw [rS_p]
      have hya : yrA (M.1 125) L p ≤ 900 := by unfold yrA; split <;> omega
      first
        | (rw [show hrv (M.1 125) L p - 48 = yrV (M.1 125) L p from (if_pos c48).symm, show sk (M.1 125) L p + 1 = yrA (M.1 125) L p from (if_pos c48).symm]
           exact x_X7_readsYear hL h60 hya c24 hQ)
        | (rw [show 10 * (hrv (M.1 125) L p - 48) + M.1 125 (sk (M.1 125) L p + 1) - 48 = yrV (M.1 125) L p from (if_neg c48).symm, show sk (M.1 125) L p + 1 + 1 = yrA (M.1 125) L p from (if_neg c48).symm]
           exact x_X7_readsYear hL h60 hya c24 hQ)
  · refine wp_iconst (v := 0) dX7_readsYear_27 rfl ?_
    refine wp_zret dX7_readsYear_28 rfl rfl rfl ?_
    rw [tYr, if_pos c24] at hQ
    exact hQ
def kof (x : Int32) : Int32 := if ¬ x = 112 then (if ¬ x = 115 then (if ¬ x = 109 then (if ¬ x = 100 then (if ¬ x = 97 then -1 else 4) else 3) else 2) else 1) else 0
set_option maxRecDepth 100000 in
set_option maxHeartbeats 4000000 in
theorem c_X7_kindOf {κ : KX} {M : MM} {Q : Option Value → va_W → Prop} {x : Int32}  (hQ : Q (some (.int (kof x))) (wM κ (M))) : CT κ (0, 0, 0) mX7_kindOf [.int x] (wM κ M) Q := by
  refine CT.of okX7_kindOf [some (.int x)] (Nat.le_of_ble_eq_true rfl) rfl ?_
  refine wp_iload_0 dX7_kindOf_0 ?_
  refine wp_bipush (v := 112) dX7_kindOf_1 rfl ?_
  refine wp_icmp_ne (tgt := 10) dX7_kindOf_3 rfl (fun c3 => ?_) (fun c3 => ?_)
  · refine wp_iload_0 dX7_kindOf_10 ?_
    refine wp_bipush (v := 115) dX7_kindOf_11 rfl ?_
    refine wp_icmp_ne (tgt := 20) dX7_kindOf_13 rfl (fun c13 => ?_) (fun c13 => ?_)
    · refine wp_iload_0 dX7_kindOf_20 ?_
      refine wp_bipush (v := 109) dX7_kindOf_21 rfl ?_
      refine wp_icmp_ne (tgt := 30) dX7_kindOf_23 rfl (fun c23 => ?_) (fun c23 => ?_)
      · refine wp_iload_0 dX7_kindOf_30 ?_
        refine wp_bipush (v := 100) dX7_kindOf_31 rfl ?_
        refine wp_icmp_ne (tgt := 40) dX7_kindOf_33 rfl (fun c33 => ?_) (fun c33 => ?_)
        · refine wp_iload_0 dX7_kindOf_40 ?_
          refine wp_bipush (v := 97) dX7_kindOf_41 rfl ?_
          refine wp_icmp_ne (tgt := 50) dX7_kindOf_43 rfl (fun c43 => ?_) (fun c43 => ?_)
          · refine wp_iconst (v := (-1)) dX7_kindOf_50 rfl ?_
            refine wp_iret dX7_kindOf_51 rfl rfl ?_
            first
              | (rw [kof, if_neg (fun q => q c3)] at hQ; exact hQ)
              | (rw [kof, if_pos c3, if_neg (fun q => q c13)] at hQ; exact hQ)
              | (rw [kof, if_pos c3, if_pos c13, if_neg (fun q => q c23)] at hQ; exact hQ)
              | (rw [kof, if_pos c3, if_pos c13, if_pos c23, if_neg (fun q => q c33)] at hQ; exact hQ)
              | (rw [kof, if_pos c3, if_pos c13, if_pos c23, if_pos c33, if_neg (fun q => q c43)] at hQ; exact hQ)
              | (rw [kof, if_pos c3, if_pos c13, if_pos c23, if_pos c33, if_pos c43] at hQ; exact hQ)
          · refine wp_iconst (v := 4) dX7_kindOf_46 rfl ?_
            refine wp_goto (tgt := 51) dX7_kindOf_47 rfl ?_
            refine wp_iret dX7_kindOf_51 rfl rfl ?_
            first
              | (rw [kof, if_neg (fun q => q c3)] at hQ; exact hQ)
              | (rw [kof, if_pos c3, if_neg (fun q => q c13)] at hQ; exact hQ)
              | (rw [kof, if_pos c3, if_pos c13, if_neg (fun q => q c23)] at hQ; exact hQ)
              | (rw [kof, if_pos c3, if_pos c13, if_pos c23, if_neg (fun q => q c33)] at hQ; exact hQ)
              | (rw [kof, if_pos c3, if_pos c13, if_pos c23, if_pos c33, if_neg (fun q => q c43)] at hQ; exact hQ)
              | (rw [kof, if_pos c3, if_pos c13, if_pos c23, if_pos c33, if_pos c43] at hQ; exact hQ)
        · refine wp_iconst (v := 3) dX7_kindOf_36 rfl ?_
          refine wp_goto (tgt := 51) dX7_kindOf_37 rfl ?_
          refine wp_iret dX7_kindOf_51 rfl rfl ?_
          first
            | (rw [kof, if_neg (fun q => q c3)] at hQ; exact hQ)
            | (rw [kof, if_pos c3, if_neg (fun q => q c13)] at hQ; exact hQ)
            | (rw [kof, if_pos c3, if_pos c13, if_neg (fun q => q c23)] at hQ; exact hQ)
            | (rw [kof, if_pos c3, if_pos c13, if_pos c23, if_neg (fun q => q c33)] at hQ; exact hQ)
            | (rw [kof, if_pos c3, if_pos c13, if_pos c23, if_pos c33, if_neg (fun q => q c43)] at hQ; exact hQ)
            | (rw [kof, if_pos c3, if_pos c13, if_pos c23, if_pos c33, if_pos c43] at hQ; exact hQ)
      · refine wp_iconst (v := 2) dX7_kindOf_26 rfl ?_
        refine wp_goto (tgt := 51) dX7_kindOf_27 rfl ?_
        refine wp_iret dX7_kindOf_51 rfl rfl ?_
        first
          | (rw [kof, if_neg (fun q => q c3)] at hQ; exact hQ)
          | (rw [kof, if_pos c3, if_neg (fun q => q c13)] at hQ; exact hQ)
          | (rw [kof, if_pos c3, if_pos c13, if_neg (fun q => q c23)] at hQ; exact hQ)
          | (rw [kof, if_pos c3, if_pos c13, if_pos c23, if_neg (fun q => q c33)] at hQ; exact hQ)
          | (rw [kof, if_pos c3, if_pos c13, if_pos c23, if_pos c33, if_neg (fun q => q c43)] at hQ; exact hQ)
          | (rw [kof, if_pos c3, if_pos c13, if_pos c23, if_pos c33, if_pos c43] at hQ; exact hQ)
    · refine wp_iconst (v := 1) dX7_kindOf_16 rfl ?_
      refine wp_goto (tgt := 51) dX7_kindOf_17 rfl ?_
      refine wp_iret dX7_kindOf_51 rfl rfl ?_
      first
        | (rw [kof, if_neg (fun q => q c3)] at hQ; exact hQ)
        | (rw [kof, if_pos c3, if_neg (fun q => q c13)] at hQ; exact hQ)
        | (rw [kof, if_pos c3, if_pos c13, if_neg (fun q => q c23)] at hQ; exact hQ)
        | (rw [kof, if_pos c3, if_pos c13, if_pos c23, if_neg (fun q => q c33)] at hQ; exact hQ)
        | (rw [kof, if_pos c3, if_pos c13, if_pos c23, if_pos c33, if_neg (fun q => q c43)] at hQ; exact hQ)
        | (rw [kof, if_pos c3, if_pos c13, if_pos c23, if_pos c33, if_pos c43] at hQ; exact hQ)
  · refine wp_iconst (v := 0) dX7_kindOf_6 rfl ?_
    refine wp_goto (tgt := 51) dX7_kindOf_7 rfl ?_
    refine wp_iret dX7_kindOf_51 rfl rfl ?_
    first
      | (rw [kof, if_neg (fun q => q c3)] at hQ; exact hQ)
      | (rw [kof, if_pos c3, if_neg (fun q => q c13)] at hQ; exact hQ)
      | (rw [kof, if_pos c3, if_pos c13, if_neg (fun q => q c23)] at hQ; exact hQ)
      | (rw [kof, if_pos c3, if_pos c13, if_pos c23, if_neg (fun q => q c33)] at hQ; exact hQ)
      | (rw [kof, if_pos c3, if_pos c13, if_pos c23, if_pos c33, if_neg (fun q => q c43)] at hQ; exact hQ)
      | (rw [kof, if_pos c3, if_pos c13, if_pos c23, if_pos c33, if_pos c43] at hQ; exact hQ)
def qr2 (T : Nat → Int32) (L w : Nat) (d : Nat → Int32) (p : Nat) (x : Int32) : (Nat → Int32) × Nat × Int32 × Int32 := (upd d (27 + w) x, sk T L p + 1, nI (sk T L p), if ¬ hrv T L p = 44 then 0 else 1)
def qr1 (T : Nat → Int32) (L w : Nat) (d : Nat → Int32) (p : Nat) (x : Int32) : (Nat → Int32) × Nat × Int32 × Int32 := if nI w = 5 then (d, sk T L p, nI (sk T L p), 0) else if wi (hrv T L p) 48 57 = 0 then (d, sk T L p, nI (sk T L p), 0) else qr2 T L w d (sk T L p + 1) (10 * x + hrv T L p - 48)
def qr0 (T : Nat → Int32) (L w : Nat) (d : Nat → Int32) (p : Nat) (x : Int32) : (Nat → Int32) × Nat × Int32 × Int32 := if nI w = 5 then (d, sk T L p, nI (sk T L p), 0) else if wi (hrv T L p) 48 57 = 0 then (d, sk T L p, nI (sk T L p), 0) else qr1 T L w d (sk T L p + 1) (10 * x + hrv T L p - 48)
set_option maxRecDepth 100000 in
set_option maxHeartbeats 4000000 in
theorem q2_X7 {κ : KX} {M : MM} {Q : Option Value → va_W → Prop} {d : Nat → Int32} {L p w : Nat} {x e mo : Int32} {x4 : Option Value} (hL : M.1 120 6 = nI L) (h60 : L ≤ 60) (hw : w ≤ 5) (hp0 : p ≤ 802) (hQ : Q (some (.int (qr2 (M.1 125) L w d p x).2.2.2)) (wM κ (rS M (qr2 (M.1 125) L w d p x).1 (qr2 (M.1 125) L w d p x).2.1 (qr2 (M.1 125) L w d p x).2.2.1 mo))) : WP κ (1, 0, 0) mX7_readsQuarrel 4 [some (rv κ 120), some (.int (nI w)), some (.int x), some (.int (nI 2)), x4] [] (wM κ (rS M d p e mo)) (0, 0) Q := by
  have hsk : sk (M.1 125) L p ≤ 802 := sk_le hp0 (by omega)
  refine wp_iload_3 dX7_readsQuarrel_4 ?_
  refine wp_iconst (v := 2) dX7_readsQuarrel_5 rfl ?_
  refine wp_icmp_ge (tgt := 72) dX7_readsQuarrel_6 rfl (fun c6 => ?_) (fun c6 => absurd (nI_le (a := 2) (b := 2) (by omega) (by omega)) c6)
  refine wp_rload_0 dX7_readsQuarrel_72 ?_
  refine wp_getR (t := 123) fX7_16 dX7_readsQuarrel_73 kd_120 rfl (rf_120_2) ?_
  refine wp_bipush (v := 27) dX7_readsQuarrel_76 rfl ?_
  refine wp_iload_1 dX7_readsQuarrel_78 ?_
  refine wp_iadd dX7_readsQuarrel_79 ?_
  refine wp_iload_2 dX7_readsQuarrel_80 ?_
  refine wp_ast (j := (27 + w)) dX7_readsQuarrel_81 ar_123 (nI_add _ _) (by omega) ?_
  rw [rS_d]
  refine wp_rload_0 dX7_readsQuarrel_82 ?_
  refine wp_callV_0 kX7_109 dX7_readsQuarrel_83 kd_120 rfl (c_X7_here (L := L) hL h60 (by omega) ?_) ⟨Nat.le_of_ble_eq_true rfl, Nat.le_of_ble_eq_true rfl, Nat.le_of_ble_eq_true rfl⟩ (Nat.le_of_ble_eq_true rfl)
  refine wp_istore_3 dX7_readsQuarrel_86 (Nat.le_of_ble_eq_true rfl) rfl ?_
  refine wp_rload_0 dX7_readsQuarrel_87 ?_
  refine wp_rload_0 dX7_readsQuarrel_88 ?_
  refine wp_getI fX7_102 dX7_readsQuarrel_89 kd_120 rfl ?_
  rw [rS_10]
  refine wp_putI fX7_113 dX7_readsQuarrel_92 kd_120 rfl rfl ?_
  rw [rS_e]
  refine wp_rload_0 dX7_readsQuarrel_95 ?_
  refine wp_dup_rv dX7_readsQuarrel_96 ?_
  refine wp_getI fX7_102 dX7_readsQuarrel_97 kd_120 rfl ?_
  rw [rS_10]
  refine wp_iconst (v := 1) dX7_readsQuarrel_100 rfl ?_
  refine wp_iadd dX7_readsQuarrel_101 ?_
  refine wp_putI fX7_102 dX7_readsQuarrel_102 kd_120 rfl rfl ?_
  rw [rS_p]
  refine wp_iload_3 dX7_readsQuarrel_105 ?_
  refine wp_bipush (v := 44) dX7_readsQuarrel_106 rfl ?_
  refine wp_icmp_ne (tgt := 115) dX7_readsQuarrel_108 rfl (fun c108 => ?_) (fun c108 => ?_)
  · refine wp_iconst (v := 0) dX7_readsQuarrel_115 rfl ?_
    refine wp_zret dX7_readsQuarrel_116 rfl rfl rfl ?_
    first
      | exact Qe hQ (if_pos c108).symm rfl
      | exact Qe hQ (if_neg (fun q => q c108)).symm rfl
  · refine wp_iconst (v := 1) dX7_readsQuarrel_111 rfl ?_
    refine wp_goto (tgt := 116) dX7_readsQuarrel_112 rfl ?_
    refine wp_zret dX7_readsQuarrel_116 rfl rfl rfl ?_
    first
      | exact Qe hQ (if_pos c108).symm rfl
      | exact Qe hQ (if_neg (fun q => q c108)).symm rfl
set_option maxRecDepth 100000 in
set_option maxHeartbeats 4000000 in
theorem q1_X7 {κ : KX} {M : MM} {Q : Option Value → va_W → Prop} {d : Nat → Int32} {L p w : Nat} {x e mo : Int32} {x4 : Option Value} (hL : M.1 120 6 = nI L) (h60 : L ≤ 60) (hw : w ≤ 5) (hp0 : p ≤ 801) (hQ : Q (some (.int (qr1 (M.1 125) L w d p x).2.2.2)) (wM κ (rS M (qr1 (M.1 125) L w d p x).1 (qr1 (M.1 125) L w d p x).2.1 (qr1 (M.1 125) L w d p x).2.2.1 mo))) : WP κ (1, 0, 0) mX7_readsQuarrel 4 [some (rv κ 120), some (.int (nI w)), some (.int x), some (.int (nI 1)), x4] [] (wM κ (rS M d p e mo)) (0, 0) Q := by
  have hsk : sk (M.1 125) L p ≤ 801 := sk_le hp0 (by omega)
  refine wp_iload_3 dX7_readsQuarrel_4 ?_
  refine wp_iconst (v := 2) dX7_readsQuarrel_5 rfl ?_
  refine wp_icmp_ge (tgt := 72) dX7_readsQuarrel_6 rfl (fun c6 => absurd c6 (nI_ge (a := 1) (b := 2) (by omega) (by omega))) (fun c6 => ?_)
  refine wp_rload_0 dX7_readsQuarrel_9 ?_
  refine wp_callV_0 kX7_109 dX7_readsQuarrel_10 kd_120 rfl (c_X7_here (L := L) hL h60 (by omega) ?_) ⟨Nat.le_of_ble_eq_true rfl, Nat.le_of_ble_eq_true rfl, Nat.le_of_ble_eq_true rfl⟩ (Nat.le_of_ble_eq_true rfl)
  refine wp_istore_4 dX7_readsQuarrel_13 (Nat.le_of_ble_eq_true rfl) rfl ?_
  refine wp_rload_0 dX7_readsQuarrel_15 ?_
  refine wp_rload_0 dX7_readsQuarrel_16 ?_
  refine wp_getI fX7_102 dX7_readsQuarrel_17 kd_120 rfl ?_
  rw [rS_10]
  refine wp_putI fX7_113 dX7_readsQuarrel_20 kd_120 rfl rfl ?_
  rw [rS_e]
  refine wp_iload_1 dX7_readsQuarrel_23 ?_
  refine wp_iconst (v := 5) dX7_readsQuarrel_24 rfl ?_
  refine wp_icmp_eq (tgt := 43) dX7_readsQuarrel_25 rfl (fun c25 => ?_) (fun c25 => ?_)
  · refine wp_iconst (v := 0) dX7_readsQuarrel_43 rfl ?_
    refine wp_zret dX7_readsQuarrel_44 rfl rfl rfl ?_
    first
      | (rw [qr1, if_pos c25] at hQ; exact hQ)
      | (rw [qr1, if_neg c25, if_pos c40] at hQ; exact hQ)
  · refine wp_iload_4 dX7_readsQuarrel_28 ?_
    refine wp_i2l dX7_readsQuarrel_30 ?_
    refine wp_ldc2 nX7_105 dX7_readsQuarrel_31 ?_
    refine wp_ldc2 nX7_107 dX7_readsQuarrel_34 ?_
    refine wp_callS_3 kX7_43 dX7_readsQuarrel_37 (c_X7_in (lo := 48) (hi := 57) (by decide) (by decide) ?_) ⟨Nat.le_of_ble_eq_true rfl, Nat.le_of_ble_eq_true rfl, Nat.le_of_ble_eq_true rfl⟩ (Nat.le_of_ble_eq_true rfl)
    refine wp_if_ne (tgt := 45) dX7_readsQuarrel_40 rfl (fun c40 => ?_) (fun c40 => ?_)
    · refine wp_bipush (v := 10) dX7_readsQuarrel_45 rfl ?_
      refine wp_iload_2 dX7_readsQuarrel_47 ?_
      refine wp_imul dX7_readsQuarrel_48 ?_
      refine wp_iload_4 dX7_readsQuarrel_49 ?_
      refine wp_iadd dX7_readsQuarrel_51 ?_
      refine wp_bipush (v := 48) dX7_readsQuarrel_52 rfl ?_
      refine wp_isub dX7_readsQuarrel_54 ?_
      refine wp_istore_2 dX7_readsQuarrel_55 (Nat.le_of_ble_eq_true rfl) rfl ?_
      refine wp_rload_0 dX7_readsQuarrel_56 ?_
      refine wp_dup_rv dX7_readsQuarrel_57 ?_
      refine wp_getI fX7_102 dX7_readsQuarrel_58 kd_120 rfl ?_
      rw [rS_10]
      refine wp_iconst (v := 1) dX7_readsQuarrel_61 rfl ?_
      refine wp_iadd dX7_readsQuarrel_62 ?_
      refine wp_putI fX7_102 dX7_readsQuarrel_63 kd_120 rfl rfl ?_
      rw [rS_p]
      refine wp_iinc_3 (v := nI (1 + 1)) dX7_readsQuarrel_66 (nI_inc _) (Nat.le_of_ble_eq_true rfl) rfl ?_
      refine wp_goto (tgt := 4) dX7_readsQuarrel_69 rfl ?_
      rw [qr1, if_neg c25, if_neg c40] at hQ
      exact q2_X7 hL h60 hw (by omega) hQ
    · refine wp_iconst (v := 0) dX7_readsQuarrel_43 rfl ?_
      refine wp_zret dX7_readsQuarrel_44 rfl rfl rfl ?_
      first
        | (rw [qr1, if_pos c25] at hQ; exact hQ)
        | (rw [qr1, if_neg c25, if_pos c40] at hQ; exact hQ)
set_option maxRecDepth 100000 in
set_option maxHeartbeats 4000000 in
theorem q0_X7 {κ : KX} {M : MM} {Q : Option Value → va_W → Prop} {d : Nat → Int32} {L p w : Nat} {x e mo : Int32} {x4 : Option Value} (hL : M.1 120 6 = nI L) (h60 : L ≤ 60) (hw : w ≤ 5) (hp0 : p ≤ 800) (hQ : Q (some (.int (qr0 (M.1 125) L w d p x).2.2.2)) (wM κ (rS M (qr0 (M.1 125) L w d p x).1 (qr0 (M.1 125) L w d p x).2.1 (qr0 (M.1 125) L w d p x).2.2.1 mo))) : WP κ (1, 0, 0) mX7_readsQuarrel 4 [some (rv κ 120), some (.int (nI w)), some (.int x), some (.int (nI 0)), x4] [] (wM κ (rS M d p e mo)) (0, 0) Q := by
  have hsk : sk (M.1 125) L p ≤ 800 := sk_le hp0 (by omega)
  refine wp_iload_3 dX7_readsQuarrel_4 ?_
  refine wp_iconst (v := 2) dX7_readsQuarrel_5 rfl ?_
  refine wp_icmp_ge (tgt := 72) dX7_readsQuarrel_6 rfl (fun c6 => absurd c6 (nI_ge (a := 0) (b := 2) (by omega) (by omega))) (fun c6 => ?_)
  refine wp_rload_0 dX7_readsQuarrel_9 ?_
  refine wp_callV_0 kX7_109 dX7_readsQuarrel_10 kd_120 rfl (c_X7_here (L := L) hL h60 (by omega) ?_) ⟨Nat.le_of_ble_eq_true rfl, Nat.le_of_ble_eq_true rfl, Nat.le_of_ble_eq_true rfl⟩ (Nat.le_of_ble_eq_true rfl)
  refine wp_istore_4 dX7_readsQuarrel_13 (Nat.le_of_ble_eq_true rfl) rfl ?_
  refine wp_rload_0 dX7_readsQuarrel_15 ?_
  refine wp_rload_0 dX7_readsQuarrel_16 ?_
  refine wp_getI fX7_102 dX7_readsQuarrel_17 kd_120 rfl ?_
  rw [rS_10]
  refine wp_putI fX7_113 dX7_readsQuarrel_20 kd_120 rfl rfl ?_
  rw [rS_e]
  refine wp_iload_1 dX7_readsQuarrel_23 ?_
  refine wp_iconst (v := 5) dX7_readsQuarrel_24 rfl ?_
  refine wp_icmp_eq (tgt := 43) dX7_readsQuarrel_25 rfl (fun c25 => ?_) (fun c25 => ?_)
  · refine wp_iconst (v := 0) dX7_readsQuarrel_43 rfl ?_
    refine wp_zret dX7_readsQuarrel_44 rfl rfl rfl ?_
    first
      | (rw [qr0, if_pos c25] at hQ; exact hQ)
      | (rw [qr0, if_neg c25, if_pos c40] at hQ; exact hQ)
  · refine wp_iload_4 dX7_readsQuarrel_28 ?_
    refine wp_i2l dX7_readsQuarrel_30 ?_
    refine wp_ldc2 nX7_105 dX7_readsQuarrel_31 ?_
    refine wp_ldc2 nX7_107 dX7_readsQuarrel_34 ?_
    refine wp_callS_3 kX7_43 dX7_readsQuarrel_37 (c_X7_in (lo := 48) (hi := 57) (by decide) (by decide) ?_) ⟨Nat.le_of_ble_eq_true rfl, Nat.le_of_ble_eq_true rfl, Nat.le_of_ble_eq_true rfl⟩ (Nat.le_of_ble_eq_true rfl)
    refine wp_if_ne (tgt := 45) dX7_readsQuarrel_40 rfl (fun c40 => ?_) (fun c40 => ?_)
    · refine wp_bipush (v := 10) dX7_readsQuarrel_45 rfl ?_
      refine wp_iload_2 dX7_readsQuarrel_47 ?_
      refine wp_imul dX7_readsQuarrel_48 ?_
      refine wp_iload_4 dX7_readsQuarrel_49 ?_
      refine wp_iadd dX7_readsQuarrel_51 ?_
      refine wp_bipush (v := 48) dX7_readsQuarrel_52 rfl ?_
      refine wp_isub dX7_readsQuarrel_54 ?_
      refine wp_istore_2 dX7_readsQuarrel_55 (Nat.le_of_ble_eq_true rfl) rfl ?_
      refine wp_rload_0 dX7_readsQuarrel_56 ?_
      refine wp_dup_rv dX7_readsQuarrel_57 ?_
      refine wp_getI fX7_102 dX7_readsQuarrel_58 kd_120 rfl ?_
      rw [rS_10]
      refine wp_iconst (v := 1) dX7_readsQuarrel_61 rfl ?_
      refine wp_iadd dX7_readsQuarrel_62 ?_
      refine wp_putI fX7_102 dX7_readsQuarrel_63 kd_120 rfl rfl ?_
      rw [rS_p]
      refine wp_iinc_3 (v := nI (0 + 1)) dX7_readsQuarrel_66 (nI_inc _) (Nat.le_of_ble_eq_true rfl) rfl ?_
      refine wp_goto (tgt := 4) dX7_readsQuarrel_69 rfl ?_
      rw [qr0, if_neg c25, if_neg c40] at hQ
      exact q1_X7 hL h60 hw (by omega) hQ
    · refine wp_iconst (v := 0) dX7_readsQuarrel_43 rfl ?_
      refine wp_zret dX7_readsQuarrel_44 rfl rfl rfl ?_
      first
        | (rw [qr0, if_pos c25] at hQ; exact hQ)
        | (rw [qr0, if_neg c25, if_pos c40] at hQ; exact hQ)
set_option maxRecDepth 100000 in
set_option maxHeartbeats 4000000 in
theorem c_X7_readsQuarrel {κ : KX} {M : MM} {Q : Option Value → va_W → Prop} {d : Nat → Int32} {L p : Nat} {e mo : Int32} {w : Nat} (hL : M.1 120 6 = nI L) (h60 : L ≤ 60) (hw : w ≤ 5) (hp0 : p ≤ 800) (hQ : Q (some (.int (qr0 (M.1 125) L w d p 0).2.2.2)) (wM κ (rS M (qr0 (M.1 125) L w d p 0).1 (qr0 (M.1 125) L w d p 0).2.1 (qr0 (M.1 125) L w d p 0).2.2.1 mo))) : CT κ (1, 0, 0) mX7_readsQuarrel [rv κ 120, .int (nI w)] (wM κ (rS M d p e mo)) Q := by
  refine CT.of okX7_readsQuarrel [some (rv κ 120), some (.int (nI w)), none, none, none] (Nat.le_of_ble_eq_true rfl) rfl ?_
  refine wp_iconst (v := 0) dX7_readsQuarrel_0 rfl ?_
  refine wp_istore_2 dX7_readsQuarrel_1 (Nat.le_of_ble_eq_true rfl) rfl ?_
  refine wp_iconst (v := 0) dX7_readsQuarrel_2 rfl ?_
  refine wp_istore_3 dX7_readsQuarrel_3 (Nat.le_of_ble_eq_true rfl) rfl ?_
  exact q0_X7 hL h60 hw hp0 hQ
