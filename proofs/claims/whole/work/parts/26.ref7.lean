/-! the reference: the tape read whole -/
def grD (T : Nat → Int32) (L g : Nat) (d : Nat → Int32) (p : Nat) : Nat → Int32 := upd (upd (upd d (4 + g) (kof (hrv T L p))) (10 + g) (hrv T L (sk T L p + 1) - 48)) 0 (nI g + 1)
def grB (T : Nat → Int32) (L g : Nat) (d : Nat → Int32) (p : Nat) : (Nat → Int32) × Nat × Int32 × Int32 × Int32 := if hrv T L p < 0 then (d, sk T L p, nI (sk T L p), 0, 1) else ((qr0 T L g d (sk T L p) 0).1, (qr0 T L g d (sk T L p) 0).2.1, (qr0 T L g d (sk T L p) 0).2.2.1, 1, if (qr0 T L g d (sk T L p) 0).2.2.2 = 0 then 0 else 1)
def tGr (T : Nat → Int32) (L g : Nat) (d : Nat → Int32) (p : Nat) (mo : Int32) : (Nat → Int32) × Nat × Int32 × Int32 × Int32 := if 0 ≤ kof (hrv T L p) then (if wi (hrv T L (sk T L p + 1)) 48 57 = 0 then (d, sk T L (sk T L p + 1), nI (sk T L (sk T L p + 1)), mo, 0) else grB T L g (grD T L g d p) (sk T L (sk T L p + 1) + 1)) else (d, sk T L p, nI (sk T L p), mo, 0)
theorem qr2_p {T : Nat → Int32} {L w p N : Nat} {d : Nat → Int32} {x : Int32} (h : p ≤ N) (hL : L ≤ N) : (qr2 T L w d p x).2.1 ≤ N + 1 := Nat.succ_le_succ (sk_le h hL)
theorem qr1_p {T : Nat → Int32} {L w p N : Nat} {d : Nat → Int32} {x : Int32} (h : p ≤ N) (hL : L ≤ N) : (qr1 T L w d p x).2.1 ≤ N + 2 := by
  have hs : sk T L p ≤ N := sk_le h hL
  rw [qr1]
  split
  · show sk T L p ≤ N + 2
    omega
  · split
    · show sk T L p ≤ N + 2
      omega
    · exact qr2_p (by omega) (by omega)
theorem qr0_p {T : Nat → Int32} {L w p N : Nat} {d : Nat → Int32} {x : Int32} (h : p ≤ N) (hL : L ≤ N) : (qr0 T L w d p x).2.1 ≤ N + 3 := by
  have hs : sk T L p ≤ N := sk_le h hL
  rw [qr0]
  split
  · show sk T L p ≤ N + 3
    omega
  · split
    · show sk T L p ≤ N + 3
      omega
    · exact qr1_p (by omega) (by omega)
theorem qr0_d {T : Nat → Int32} {L w p a : Nat} {d : Nat → Int32} {x : Int32} (ha : a < 27) : (qr0 T L w d p x).1 a = d a := by
  have e2 : ∀ (p : Nat) (x : Int32), (qr2 T L w d p x).1 a = d a := fun p x => upd_o (by omega)
  have e1 : ∀ (p : Nat) (x : Int32), (qr1 T L w d p x).1 a = d a := by
    intro p x
    rw [qr1]
    split
    · rfl
    · split
      · rfl
      · exact e2 _ _
  rw [qr0]
  split
  · rfl
  · split
    · rfl
    · exact e1 _ _
theorem tGr_p {T : Nat → Int32} {L g p N : Nat} {d : Nat → Int32} {mo : Int32} (h : p ≤ N) (hL : L ≤ N) : (tGr T L g d p mo).2.1 ≤ N + 10 := by
  have h1 : sk T L p ≤ N := sk_le h hL
  have h2 : sk T L (sk T L p + 1) ≤ N + 1 := sk_le (by omega) (by omega)
  have h3 : sk T L (sk T L (sk T L p + 1) + 1) ≤ N + 2 := sk_le (by omega) (by omega)
  rw [tGr]
  split
  · split
    · show sk T L (sk T L p + 1) ≤ N + 10
      omega
    · rw [grB]
      split
      · show sk T L (sk T L (sk T L p + 1) + 1) ≤ N + 10
        omega
      · have h4 := qr0_p (T := T) (L := L) (w := g) (p := sk T L (sk T L (sk T L p + 1) + 1)) (N := N + 2) (d := grD T L g d p) (x := 0) h3 (by omega)
        show (qr0 T L g (grD T L g d p) (sk T L (sk T L (sk T L p + 1) + 1)) 0).2.1 ≤ N + 10
        omega
  · show sk T L p ≤ N + 10
    omega
theorem tGr_d {T : Nat → Int32} {L g p : Nat} {d : Nat → Int32} {mo : Int32} (h : ¬ (tGr T L g d p mo).2.2.2.2 = 0) : (tGr T L g d p mo).1 0 = nI (g + 1) := by
  have e : grD T L g d p 0 = nI (g + 1) := nI_1 g
  by_cases h1 : 0 ≤ kof (hrv T L p)
  · by_cases h2 : wi (hrv T L (sk T L p + 1)) 48 57 = 0
    · rw [tGr, if_pos h1, if_pos h2] at h
      exact absurd rfl h
    · rw [tGr, if_pos h1, if_neg h2, grB]
      split
      · exact e
      · exact (qr0_d (by omega)).trans e
  · rw [tGr, if_neg h1] at h
    exact absurd rfl h
theorem tGr_5 {T : Nat → Int32} {L p : Nat} {d : Nat → Int32} {mo : Int32} (h : ¬ (tGr T L 5 d p mo).2.2.2.2 = 0) : (tGr T L 5 d p mo).2.2.2.1 = 0 := by
  by_cases h1 : 0 ≤ kof (hrv T L p)
  · by_cases h2 : wi (hrv T L (sk T L p + 1)) 48 57 = 0
    · rw [tGr, if_pos h1, if_pos h2] at h
      exact absurd rfl h
    · rw [tGr, if_pos h1, if_neg h2, grB] at h ⊢
      by_cases h3 : hrv T L (sk T L (sk T L p + 1) + 1) < 0
      · rw [if_pos h3]
      · rw [if_neg h3] at h
        refine absurd ?_ h
        show (if (qr0 T L 5 (grD T L 5 d p) (sk T L (sk T L (sk T L p + 1) + 1)) 0).2.2.2 = 0 then (0 : Int32) else 1) = 0
        rw [qr0, if_pos (show nI 5 = 5 from rfl)]
        rfl
  · rw [tGr, if_neg h1] at h
    exact absurd rfl h
set_option maxRecDepth 100000 in
set_option maxHeartbeats 4000000 in
theorem c_X7_readsGarden {κ : KX} {M : MM} {Q : Option Value → va_W → Prop} {d : Nat → Int32} {L p : Nat} {e mo : Int32} {g : Nat} (hL : M.1 120 6 = nI L) (h60 : L ≤ 60) (hd : d 0 = nI g) (hg6 : g < 6) (hp0 : p ≤ 700) (hQ : Q (some (.int (tGr (M.1 125) L g d p mo).2.2.2.2)) (wM κ (rS M (tGr (M.1 125) L g d p mo).1 (tGr (M.1 125) L g d p mo).2.1 (tGr (M.1 125) L g d p mo).2.2.1 (tGr (M.1 125) L g d p mo).2.2.2.1))) : CT κ (2, 0, 0) mX7_readsGarden [rv κ 120] (wM κ (rS M d p e mo)) Q := by
  refine CT.of okX7_readsGarden [some (rv κ 120), none, none, none] (Nat.le_of_ble_eq_true rfl) rfl ?_
  refine wp_rload_0 dX7_readsGarden_0 ?_
  refine wp_getR (t := 123) fX7_16 dX7_readsGarden_1 kd_120 rfl (rf_120_2) ?_
  refine wp_iconst (v := 0) dX7_readsGarden_4 rfl ?_
  refine wp_ald (j := 0) dX7_readsGarden_5 ar_123 (rfl) (by omega) ?_
  rw [rS_123]
  rw [hd]
  refine wp_istore_1 dX7_readsGarden_6 (Nat.le_of_ble_eq_true rfl) rfl ?_
  refine wp_rload_0 dX7_readsGarden_7 ?_
  refine wp_callV_0 kX7_109 dX7_readsGarden_8 kd_120 rfl (c_X7_here (L := L) hL h60 (by omega) ?_) ⟨Nat.le_of_ble_eq_true rfl, Nat.le_of_ble_eq_true rfl, Nat.le_of_ble_eq_true rfl⟩ (Nat.le_of_ble_eq_true rfl)
  have hs1 : sk (M.1 125) L p ≤ 700 := sk_le hp0 (by omega)
  refine wp_callS_1 kX7_120 dX7_readsGarden_11 (c_X7_kindOf ?_) ⟨Nat.le_of_ble_eq_true rfl, Nat.le_of_ble_eq_true rfl, Nat.le_of_ble_eq_true rfl⟩ (Nat.le_of_ble_eq_true rfl)
  refine wp_istore_2 dX7_readsGarden_14 (Nat.le_of_ble_eq_true rfl) rfl ?_
  refine wp_rload_0 dX7_readsGarden_15 ?_
  refine wp_rload_0 dX7_readsGarden_16 ?_
  refine wp_getI fX7_102 dX7_readsGarden_17 kd_120 rfl ?_
  rw [rS_10]
  refine wp_putI fX7_113 dX7_readsGarden_20 kd_120 rfl rfl ?_
  rw [rS_e]
  refine wp_iload_2 dX7_readsGarden_23 ?_
  refine wp_if_ge (tgt := 29) dX7_readsGarden_24 rfl (fun c24 => ?_) (fun c24 => ?_)
  · rw [tGr, if_pos c24] at hQ
    refine wp_rload_0 dX7_readsGarden_29 ?_
    refine wp_dup_rv dX7_readsGarden_30 ?_
    refine wp_getI fX7_102 dX7_readsGarden_31 kd_120 rfl ?_
    rw [rS_10]
    refine wp_iconst (v := 1) dX7_readsGarden_34 rfl ?_
    refine wp_iadd dX7_readsGarden_35 ?_
    refine wp_putI fX7_102 dX7_readsGarden_36 kd_120 rfl rfl ?_
    rw [rS_p]
    refine wp_rload_0 dX7_readsGarden_39 ?_
    refine wp_callV_0 kX7_109 dX7_readsGarden_40 kd_120 rfl (c_X7_here (L := L) hL h60 (by omega) ?_) ⟨Nat.le_of_ble_eq_true rfl, Nat.le_of_ble_eq_true rfl, Nat.le_of_ble_eq_true rfl⟩ (Nat.le_of_ble_eq_true rfl)
    have hs2 : sk (M.1 125) L (sk (M.1 125) L p + 1) ≤ 701 := sk_le (by omega) (by omega)
    refine wp_istore_3 dX7_readsGarden_43 (Nat.le_of_ble_eq_true rfl) rfl ?_
    refine wp_rload_0 dX7_readsGarden_44 ?_
    refine wp_rload_0 dX7_readsGarden_45 ?_
    refine wp_getI fX7_102 dX7_readsGarden_46 kd_120 rfl ?_
    rw [rS_10]
    refine wp_putI fX7_113 dX7_readsGarden_49 kd_120 rfl rfl ?_
    rw [rS_e]
    refine wp_iload_3 dX7_readsGarden_52 ?_
    refine wp_i2l dX7_readsGarden_53 ?_
    refine wp_ldc2 nX7_105 dX7_readsGarden_54 ?_
    refine wp_ldc2 nX7_107 dX7_readsGarden_57 ?_
    refine wp_callS_3 kX7_43 dX7_readsGarden_60 (c_X7_in (lo := 48) (hi := 57) (by decide) (by decide) ?_) ⟨Nat.le_of_ble_eq_true rfl, Nat.le_of_ble_eq_true rfl, Nat.le_of_ble_eq_true rfl⟩ (Nat.le_of_ble_eq_true rfl)
    refine wp_if_ne (tgt := 68) dX7_readsGarden_63 rfl (fun c63 => ?_) (fun c63 => ?_)
    · rw [if_neg c63, grB] at hQ
      refine wp_rload_0 dX7_readsGarden_68 ?_
      refine wp_dup_rv dX7_readsGarden_69 ?_
      refine wp_getI fX7_102 dX7_readsGarden_70 kd_120 rfl ?_
      rw [rS_10]
      refine wp_iconst (v := 1) dX7_readsGarden_73 rfl ?_
      refine wp_iadd dX7_readsGarden_74 ?_
      refine wp_putI fX7_102 dX7_readsGarden_75 kd_120 rfl rfl ?_
      rw [rS_p]
      refine wp_rload_0 dX7_readsGarden_78 ?_
      refine wp_getR (t := 123) fX7_16 dX7_readsGarden_79 kd_120 rfl (rf_120_2) ?_
      refine wp_iconst (v := 4) dX7_readsGarden_82 rfl ?_
      refine wp_iload_1 dX7_readsGarden_83 ?_
      refine wp_iadd dX7_readsGarden_84 ?_
      refine wp_iload_2 dX7_readsGarden_85 ?_
      refine wp_ast (j := (4 + g)) dX7_readsGarden_86 ar_123 (nI_add _ _) (by omega) ?_
      rw [rS_d]
      refine wp_rload_0 dX7_readsGarden_87 ?_
      refine wp_getR (t := 123) fX7_16 dX7_readsGarden_88 kd_120 rfl (rf_120_2) ?_
      refine wp_bipush (v := 10) dX7_readsGarden_91 rfl ?_
      refine wp_iload_1 dX7_readsGarden_93 ?_
      refine wp_iadd dX7_readsGarden_94 ?_
      refine wp_iload_3 dX7_readsGarden_95 ?_
      refine wp_bipush (v := 48) dX7_readsGarden_96 rfl ?_
      refine wp_isub dX7_readsGarden_98 ?_
      refine wp_ast (j := (10 + g)) dX7_readsGarden_99 ar_123 (nI_add _ _) (by omega) ?_
      rw [rS_d]
      refine wp_rload_0 dX7_readsGarden_100 ?_
      refine wp_getR (t := 123) fX7_16 dX7_readsGarden_101 kd_120 rfl (rf_120_2) ?_
      refine wp_iconst (v := 0) dX7_readsGarden_104 rfl ?_
      refine wp_dup2_iv dX7_readsGarden_105 ?_
      refine wp_ald (j := 0) dX7_readsGarden_106 ar_123 (rfl) (by omega) ?_
      rw [rS_123]
      rw [upd_o (by omega), upd_o (by omega), hd]
      refine wp_iconst (v := 1) dX7_readsGarden_107 rfl ?_
      refine wp_iadd dX7_readsGarden_108 ?_
      refine wp_ast (j := 0) dX7_readsGarden_109 ar_123 (rfl) (by omega) ?_
      rw [rS_d]
      rw [show upd (upd (upd d (4 + g) (kof (hrv (M.1 125) L p))) (10 + g) (hrv (M.1 125) L (sk (M.1 125) L p + 1) - 48)) 0 (nI g + 1) = grD (M.1 125) L g d p from rfl]
      refine wp_rload_0 dX7_readsGarden_110 ?_
      refine wp_callV_0 kX7_109 dX7_readsGarden_111 kd_120 rfl (c_X7_here (L := L) hL h60 (by omega) ?_) ⟨Nat.le_of_ble_eq_true rfl, Nat.le_of_ble_eq_true rfl, Nat.le_of_ble_eq_true rfl⟩ (Nat.le_of_ble_eq_true rfl)
      have hs3 : sk (M.1 125) L (sk (M.1 125) L (sk (M.1 125) L p + 1) + 1) ≤ 702 := sk_le (by omega) (by omega)
      refine wp_istore_3 dX7_readsGarden_114 (Nat.le_of_ble_eq_true rfl) rfl ?_
      refine wp_rload_0 dX7_readsGarden_115 ?_
      refine wp_rload_0 dX7_readsGarden_116 ?_
      refine wp_getI fX7_102 dX7_readsGarden_117 kd_120 rfl ?_
      rw [rS_10]
      refine wp_putI fX7_113 dX7_readsGarden_120 kd_120 rfl rfl ?_
      rw [rS_e]
      refine wp_rload_0 dX7_readsGarden_123 ?_
      refine wp_iload_3 dX7_readsGarden_124 ?_
      refine wp_if_lt (tgt := 132) dX7_readsGarden_125 rfl (fun c125 => ?_) (fun c125 => ?_)
      · refine wp_iconst (v := 0) dX7_readsGarden_132 rfl ?_
        refine wp_putZ fX7_123 dX7_readsGarden_133 kd_120 rfl rfl rfl rfl ?_
        rw [rS_m]
        refine wp_rload_0 dX7_readsGarden_136 ?_
        refine wp_getI fX7_123 dX7_readsGarden_137 kd_120 rfl ?_
        rw [rS_12]
        refine wp_if_eq (tgt := 151) dX7_readsGarden_140 rfl (fun c140 => ?_) (fun c140 => absurd (rfl) c140)
        refine wp_iconst (v := 1) dX7_readsGarden_151 rfl ?_
        refine wp_goto (tgt := 156) dX7_readsGarden_152 rfl ?_
        refine wp_zret dX7_readsGarden_156 rfl rfl rfl ?_
        rw [if_pos c125] at hQ
        exact hQ
      · refine wp_iconst (v := 1) dX7_readsGarden_128 rfl ?_
        refine wp_goto (tgt := 133) dX7_readsGarden_129 rfl ?_
        refine wp_putZ fX7_123 dX7_readsGarden_133 kd_120 rfl rfl rfl rfl ?_
        rw [rS_m]
        refine wp_rload_0 dX7_readsGarden_136 ?_
        refine wp_getI fX7_123 dX7_readsGarden_137 kd_120 rfl ?_
        rw [rS_12]
        refine wp_if_eq (tgt := 151) dX7_readsGarden_140 rfl (fun c140 => absurd c140 (by decide)) (fun c140 => ?_)
        refine wp_rload_0 dX7_readsGarden_143 ?_
        refine wp_iload_1 dX7_readsGarden_144 ?_
        refine wp_callV_1 kX7_127 dX7_readsGarden_145 kd_120 rfl (c_X7_readsQuarrel (L := L) hL h60 (by omega) (by omega) ?_) ⟨Nat.le_of_ble_eq_true rfl, Nat.le_of_ble_eq_true rfl, Nat.le_of_ble_eq_true rfl⟩ (Nat.le_of_ble_eq_true rfl)
        refine wp_if_eq (tgt := 155) dX7_readsGarden_148 rfl (fun c148 => ?_) (fun c148 => ?_)
        · refine wp_iconst (v := 0) dX7_readsGarden_155 rfl ?_
          refine wp_zret dX7_readsGarden_156 rfl rfl rfl ?_
          rw [if_neg c125] at hQ
          first
            | exact Qe hQ (if_pos c148).symm rfl
            | exact Qe hQ (if_neg c148).symm rfl
        · refine wp_iconst (v := 1) dX7_readsGarden_151 rfl ?_
          refine wp_goto (tgt := 156) dX7_readsGarden_152 rfl ?_
          refine wp_zret dX7_readsGarden_156 rfl rfl rfl ?_
          rw [if_neg c125] at hQ
          first
            | exact Qe hQ (if_pos c148).symm rfl
            | exact Qe hQ (if_neg c148).symm rfl
    · refine wp_iconst (v := 0) dX7_readsGarden_66 rfl ?_
      refine wp_zret dX7_readsGarden_67 rfl rfl rfl ?_
      rw [if_pos c63] at hQ
      exact hQ
  · refine wp_iconst (v := 0) dX7_readsGarden_27 rfl ?_
    refine wp_zret dX7_readsGarden_28 rfl rfl rfl ?_
    rw [tGr, if_neg c24] at hQ
    exact hQ
def rgF (T : Nat → Int32) (L : Nat) : Nat → Nat → (Nat → Int32) → Nat → Int32 → Int32 → (Nat → Int32) × Nat × Int32 × Int32 × Int32
  | 0, _, d, p, e, mo => (d, p, e, mo, 1)
  | n + 1, g, d, p, e, mo => if mo = 0 then (d, p, e, mo, 1) else if ¬ (tGr T L g d p mo).2.2.2.2 = 0 then rgF T L n (g + 1) (tGr T L g d p mo).1 (tGr T L g d p mo).2.1 (tGr T L g d p mo).2.2.1 (tGr T L g d p mo).2.2.2.1 else ((tGr T L g d p mo).1, (tGr T L g d p mo).2.1, (tGr T L g d p mo).2.2.1, (tGr T L g d p mo).2.2.2.1, 0)
theorem mo5 {T : Nat → Int32} {L g p : Nat} {d : Nat → Int32} {mo : Int32} (hg5 : g = 5) (h : ¬ (tGr T L g d p mo).2.2.2.2 = 0) : (tGr T L g d p mo).2.2.2.1 = 0 := by
  subst hg5
  exact tGr_5 h
set_option maxRecDepth 100000 in
set_option maxHeartbeats 4000000 in
theorem l_X7_reads {κ : KX} {M : MM} {Q : Option Value → va_W → Prop} {L : Nat} (hL : M.1 120 6 = nI L) (h60 : L ≤ 60) : ∀ n g (d : Nat → Int32) p (e mo : Int32), g + n = 6 → d 0 = nI g → (n = 0 → mo = 0) → p ≤ 100 + 20 * g → Q (some (.int (rgF (M.1 125) L n g d p e mo).2.2.2.2)) (wM κ (rS M (rgF (M.1 125) L n g d p e mo).1 (rgF (M.1 125) L n g d p e mo).2.1 (rgF (M.1 125) L n g d p e mo).2.2.1 (rgF (M.1 125) L n g d p e mo).2.2.2.1)) → WP κ (3, 0, 0) mX7_reads 40 [some (rv κ 120)] [] (wM κ (rS M d p e mo)) (0, 0) Q := by
  intro n
  induction n with
  | zero =>
    intro g d p e mo hn hd hmo hp0 hQ
    have hm0 := hmo rfl
    refine wp_rload_0 dX7_reads_40 ?_
    refine wp_getI fX7_123 dX7_reads_41 kd_120 rfl ?_
    rw [rS_12]
    refine wp_if_eq (tgt := 56) dX7_reads_44 rfl (fun c44 => ?_) (fun c44 => absurd (hm0) c44)
    refine wp_iconst (v := 1) dX7_reads_56 rfl ?_
    refine wp_zret dX7_reads_57 rfl rfl rfl ?_
    exact hQ
  | succ n ih =>
    intro g d p e mo hn hd hmo hp0 hQ
    refine wp_rload_0 dX7_reads_40 ?_
    refine wp_getI fX7_123 dX7_reads_41 kd_120 rfl ?_
    rw [rS_12]
    refine wp_if_eq (tgt := 56) dX7_reads_44 rfl (fun c44 => ?_) (fun c44 => ?_)
    · refine wp_iconst (v := 1) dX7_reads_56 rfl ?_
      refine wp_zret dX7_reads_57 rfl rfl rfl ?_
      rw [rgF, if_pos c44] at hQ
      exact hQ
    · rw [rgF, if_neg c44] at hQ
      refine wp_rload_0 dX7_reads_47 ?_
      refine wp_callV_0 kX7_133 dX7_reads_48 kd_120 rfl (c_X7_readsGarden (L := L) (g := g) hL h60 hd (by omega) (by omega) ?_) ⟨Nat.le_of_ble_eq_true rfl, Nat.le_of_ble_eq_true rfl, Nat.le_of_ble_eq_true rfl⟩ (Nat.le_of_ble_eq_true rfl)
      refine wp_if_ne (tgt := 40) dX7_reads_51 rfl (fun c51 => ?_) (fun c51 => ?_)
      · rw [if_pos c51] at hQ
        exact ih (g + 1) _ _ _ _ (by omega) (tGr_d c51) (fun q => mo5 (show g = 5 by omega) c51) (by have := tGr_p (T := M.1 125) (L := L) (g := g) (p := p) (N := 100 + 20 * g) (d := d) (mo := mo) hp0 (by omega); omega) hQ
      · refine wp_iconst (v := 0) dX7_reads_54 rfl ?_
        refine wp_zret dX7_reads_55 rfl rfl rfl ?_
        rw [if_neg (fun q => q c51)] at hQ
        exact hQ
theorem bgn_in (h : Nat → Int32) {a : Nat} : ∀ m, a < m → bgn h m a = if wi (nI a) 32 36 = 0 then 0 else -99
  | 0, h0 => absurd h0 (by omega)
  | m + 1, hm => by
    rw [bgn]
    by_cases e : a = m
    · subst e; exact if_pos rfl
    · rw [upd_o e]
      exact bgn_in h m (by omega)
theorem bgF_0 (h : Nat → Int32) (y e d : Int32) : bgF h y e d 0 = 0 := by
  rw [bgF, upd_o (by decide), upd_o (by decide), upd_o (by decide), bgn_in h 223 (by decide)]
  rfl
theorem tYr_d {T : Nat → Int32} {L p a : Nat} {d : Nat → Int32} (ha : a ≠ 1) : (tYr T L d p).1 a = d a := by
  rw [tYr]
  split
  · rfl
  · split
    · rfl
    · exact upd_o ha
theorem tYr_p {T : Nat → Int32} {L : Nat} {d : Nat → Int32} (h60 : L ≤ 60) : (tYr T L d 0).2.1 ≤ 100 := by
  have h1 : sk T L 0 ≤ 60 := sk_le (by omega) h60
  have h2 : yrA T L 0 ≤ 62 := by unfold yrA; split <;> omega
  have h3 : sk T L (yrA T L 0) ≤ 62 := sk_le h2 (by omega)
  rw [tYr]
  split
  · show sk T L 0 ≤ 100
    omega
  · split
    · show yrA T L 0 ≤ 100
      omega
    · show sk T L (yrA T L 0) + 1 ≤ 100
      omega
def rdD (M : MM) (h : Nat → Int32) : Nat → Int32 := bgF h 0 (M.1 121 2) (M.1 121 37)
def rdY (M : MM) (L : Nat) (h : Nat → Int32) : (Nat → Int32) × Nat × Int32 × Int32 := tYr (M.1 125) L (rdD M h) 0
def tRd (M : MM) (L : Nat) (h : Nat → Int32) : (Nat → Int32) × Nat × Int32 × Int32 × Int32 := if ¬ (rdY M L h).2.2.2 = 0 then rgF (M.1 125) L 6 0 (rdY M L h).1 (rdY M L h).2.1 (rdY M L h).2.2.1 1 else ((rdY M L h).1, (rdY M L h).2.1, (rdY M L h).2.2.1, M.1 120 12, 0)
section WPI
variable {κ : KX} {r : RM} {y : MD} {pc : Nat} {L : List (Option Value)} {st : List Value} {M : MM} {ct : Nat × Nat} {Q : Option Value → va_W → Prop}
theorem wp_rI (k : Nat) (h : WP κ r y pc L st (wM κ (rI M k (M.1 k))) ct Q) : WP κ r y pc L st (wM κ M) ct Q := by
  rw [rI_id] at h
  exact h
end WPI
set_option maxRecDepth 100000 in
set_option maxHeartbeats 4000000 in
theorem c_X7_reads {κ : KX} {M : MM} {Q : Option Value → va_W → Prop} {h : Nat → Int32} {L : Nat} (hL : M.1 120 6 = nI L) (h60 : L ≤ 60) (hQ : Q (some (.int (tRd M L h).2.2.2.2)) (wM κ (rS M (tRd M L h).1 (tRd M L h).2.1 (tRd M L h).2.2.1 (tRd M L h).2.2.2.1))) : CT κ (3, 0, 0) mX7_reads [rv κ 120] (wM κ (rI M 123 h)) Q := by
  refine CT.of okX7_reads [some (rv κ 120)] (Nat.le_of_ble_eq_true rfl) rfl ?_
  refine wp_rload_0 dX7_reads_0 ?_
  refine wp_getR (t := 123) fX7_16 dX7_reads_1 kd_120 rfl (rf_120_2) ?_
  refine wp_iconst (v := 0) dX7_reads_4 rfl ?_
  refine wp_rload_0 dX7_reads_5 ?_
  refine wp_getR (t := 121) fX7_7 dX7_reads_6 kd_120 rfl (rf_120_0) ?_
  refine wp_iconst (v := 2) dX7_reads_9 rfl ?_
  refine wp_ald (j := 2) dX7_reads_10 ar_121 (rfl) (by omega) ?_
  rw [rI_ne _ _ (by decide)]
  refine wp_rload_0 dX7_reads_11 ?_
  refine wp_getR (t := 121) fX7_7 dX7_reads_12 kd_120 rfl (rf_120_0) ?_
  refine wp_bipush (v := 37) dX7_reads_15 rfl ?_
  refine wp_ald (j := 37) dX7_reads_17 ar_121 (rfl) (by omega) ?_
  rw [rI_ne _ _ (by decide)]
  refine wp_callS_4 kX7_35 dX7_reads_18 (c_X7_begins (k := 123) ar_123 ?_) ⟨Nat.le_of_ble_eq_true rfl, Nat.le_of_ble_eq_true rfl, Nat.le_of_ble_eq_true rfl⟩ (Nat.le_of_ble_eq_true rfl)
  refine wp_rload_0 dX7_reads_21 ?_
  refine wp_iconst (v := 0) dX7_reads_22 rfl ?_
  refine wp_putI fX7_102 dX7_reads_23 kd_120 rfl rfl ?_
  rw [rS_of]
  refine wp_rload_0 dX7_reads_26 ?_
  refine wp_callV_0 kX7_130 dX7_reads_27 kd_120 rfl (c_X7_readsYear (L := L) hL h60 (by omega) ?_) ⟨Nat.le_of_ble_eq_true rfl, Nat.le_of_ble_eq_true rfl, Nat.le_of_ble_eq_true rfl⟩ (Nat.le_of_ble_eq_true rfl)
  refine wp_if_ne (tgt := 35) dX7_reads_30 rfl (fun c30 => ?_) (fun c30 => ?_)
  · rw [tRd, if_pos (show ¬ (rdY M L h).2.2.2 = 0 from c30)] at hQ
    refine wp_rload_0 dX7_reads_35 ?_
    refine wp_iconst (v := 1) dX7_reads_36 rfl ?_
    refine wp_putZ fX7_123 dX7_reads_37 kd_120 rfl rfl rfl rfl ?_
    rw [rS_m]
    exact l_X7_reads hL h60 6 0 _ _ _ _ rfl (by rw [tYr_d (by decide)]; exact bgF_0 _ _ _ _) (fun q => absurd q (by decide)) (tYr_p h60) hQ
  · refine wp_iconst (v := 0) dX7_reads_33 rfl ?_
    refine wp_zret dX7_reads_34 rfl rfl rfl ?_
    rw [tRd, if_neg (fun q => q (show (rdY M L h).2.2.2 = 0 from c30))] at hQ
    exact hQ
def tS0 (M : MM) (L : Nat) (h : Nat → Int32) : MM := sI (rS M (tRd M L h).1 (tRd M L h).2.1 (tRd M L h).2.2.1 (tRd M L h).2.2.2.1) 120 6 0
def tSt (M : MM) (L : Nat) (h : Nat → Int32) : MM × Int32 := if ¬ (tRd M L h).2.2.2.2 = 0 then (rI (tS0 M L h) 121 (cpD (tRd M L h).1 (M.1 121) 0 0 223), (tRd M L h).1 0) else (tS0 M L h, -20 - (tRd M L h).2.2.1)
set_option maxRecDepth 100000 in
set_option maxHeartbeats 4000000 in
theorem c_X7_street {κ : KX} {M : MM} {Q : Option Value → va_W → Prop} {h : Nat → Int32} {L : Nat} (hL : M.1 120 6 = nI L) (h60 : L ≤ 60) (hQ : Q (some (.int (tSt M L h).2)) (wM κ ((tSt M L h).1))) : CT κ (4, 0, 0) mX7_street [rv κ 120] (wM κ (rI M 123 h)) Q := by
  refine CT.of okX7_street [some (rv κ 120), none] (Nat.le_of_ble_eq_true rfl) rfl ?_
  refine wp_rload_0 dX7_street_0 ?_
  refine wp_callV_0 kX7_136 dX7_street_1 kd_120 rfl (c_X7_reads (L := L) hL h60 ?_) ⟨Nat.le_of_ble_eq_true rfl, Nat.le_of_ble_eq_true rfl, Nat.le_of_ble_eq_true rfl⟩ (Nat.le_of_ble_eq_true rfl)
  refine wp_istore_1 dX7_street_4 (Nat.le_of_ble_eq_true rfl) rfl ?_
  refine wp_rload_0 dX7_street_5 ?_
  refine wp_iconst (v := 0) dX7_street_6 rfl ?_
  refine wp_putI fX7_98 dX7_street_7 kd_120 rfl rfl ?_
  refine wp_iload_1 dX7_street_10 ?_
  refine wp_if_ne (tgt := 22) dX7_street_11 rfl (fun c11 => ?_) (fun c11 => ?_)
  · refine wp_rI 121 ?_
    refine wp_rload_0 dX7_street_22 ?_
    refine wp_getR (t := 123) fX7_16 dX7_street_23 kd_120 rfl (rf_120_2) ?_
    refine wp_iconst (v := 0) dX7_street_26 rfl ?_
    refine wp_rload_0 dX7_street_27 ?_
    refine wp_getR (t := 121) fX7_7 dX7_street_28 kd_120 rfl (rf_120_0) ?_
    refine wp_iconst (v := 0) dX7_street_31 rfl ?_
    refine wp_sipush (v := 223) dX7_street_32 rfl ?_
    refine wp_callS_5 kX7_139 dX7_street_35 (c_X7_copiesD (k := 121) (q := 123) (a := 0) (b := 0) (m := 223) ar_121 ar_123 (by decide) (by decide) (by decide) ?_) ⟨Nat.le_of_ble_eq_true rfl, Nat.le_of_ble_eq_true rfl, Nat.le_of_ble_eq_true rfl⟩ (Nat.le_of_ble_eq_true rfl)
    refine wp_rload_0 dX7_street_38 ?_
    refine wp_getR (t := 121) fX7_7 dX7_street_39 kd_120 rfl (rf_120_0) ?_
    refine wp_iconst (v := 0) dX7_street_42 rfl ?_
    refine wp_ald (j := 0) dX7_street_43 ar_121 (rfl) (by omega) ?_
    refine wp_iret dX7_street_44 rfl rfl ?_
    rw [tSt, if_pos c11] at hQ
    refine Qe hQ ?_ rfl
    rw [rI_at]
    exact cpD_in _ _ 223 (by decide)
  · refine wp_bipush (v := (-20)) dX7_street_14 rfl ?_
    refine wp_rload_0 dX7_street_16 ?_
    refine wp_getI fX7_113 dX7_street_17 kd_120 rfl ?_
    refine wp_isub dX7_street_20 ?_
    refine wp_iret dX7_street_21 rfl rfl ?_
    rw [tSt, if_neg (fun q => q c11)] at hQ
    exact hQ
def tTy (M : MM) (L : Nat) (x : Int32) : MM × Int32 := if wi x 32 126 = 0 then (M, -1) else if ¬ nI L = 60 then (sI (sI M 125 L x) 120 6 (nI L + 1), nI L + 1) else (M, -3)
set_option maxRecDepth 100000 in
set_option maxHeartbeats 4000000 in
theorem c_X7_type {κ : KX} {M : MM} {Q : Option Value → va_W → Prop} {L : Nat} {x : Int32} (hL : M.1 120 6 = nI L) (h60 : L ≤ 60) (hQ : Q (some (.int (tTy M L x).2)) (wM κ ((tTy M L x).1))) : CT κ (1, 0, 0) mX7_type [rv κ 120, .int x] (wM κ M) Q := by
  refine CT.of okX7_type [some (rv κ 120), some (.int x)] (Nat.le_of_ble_eq_true rfl) rfl ?_
  refine wp_iload_1 dX7_type_0 ?_
  refine wp_i2l dX7_type_1 ?_
  refine wp_ldc2 nX7_39 dX7_type_2 ?_
  refine wp_ldc2 nX7_96 dX7_type_5 ?_
  refine wp_callS_3 kX7_43 dX7_type_8 (c_X7_in (lo := 32) (hi := 126) (by decide) (by decide) ?_) ⟨Nat.le_of_ble_eq_true rfl, Nat.le_of_ble_eq_true rfl, Nat.le_of_ble_eq_true rfl⟩ (Nat.le_of_ble_eq_true rfl)
  refine wp_if_ne (tgt := 16) dX7_type_11 rfl (fun c11 => ?_) (fun c11 => ?_)
  · refine wp_rload_0 dX7_type_16 ?_
    refine wp_getI fX7_98 dX7_type_17 kd_120 rfl ?_
    rw [hL]
    refine wp_bipush (v := 60) dX7_type_20 rfl ?_
    refine wp_icmp_ne (tgt := 28) dX7_type_22 rfl (fun c22 => ?_) (fun c22 => ?_)
    · have hL6 : L < 60 := by
        rcases Nat.lt_or_ge L 60 with z | z
        · exact z
        · exact absurd (by rw [show L = 60 by omega]; rfl) c22
      refine wp_rload_0 dX7_type_28 ?_
      refine wp_getR (t := 125) fX7_22 dX7_type_29 kd_120 rfl (rf_120_5) ?_
      refine wp_rload_0 dX7_type_32 ?_
      refine wp_getI fX7_98 dX7_type_33 kd_120 rfl ?_
      rw [hL]
      refine wp_iload_1 dX7_type_36 ?_
      refine wp_ast (j := L) dX7_type_37 ar_125 (rfl) (by omega) ?_
      refine wp_rload_0 dX7_type_38 ?_
      refine wp_dup_rv dX7_type_39 ?_
      refine wp_getI fX7_98 dX7_type_40 kd_120 rfl ?_
      rw [show (sI M 125 L x).1 120 6 = nI L from hL]
      refine wp_iconst (v := 1) dX7_type_43 rfl ?_
      refine wp_iadd dX7_type_44 ?_
      refine wp_putI fX7_98 dX7_type_45 kd_120 rfl rfl ?_
      refine wp_rload_0 dX7_type_48 ?_
      refine wp_getI fX7_98 dX7_type_49 kd_120 rfl ?_
      rw [sI_same]
      refine wp_iret dX7_type_52 rfl rfl ?_
      rw [tTy, if_neg c11, if_pos c22] at hQ
      exact hQ
    · refine wp_bipush (v := (-3)) dX7_type_25 rfl ?_
      refine wp_iret dX7_type_27 rfl rfl ?_
      rw [tTy, if_neg c11, if_neg (fun q => q c22)] at hQ
      exact hQ
  · refine wp_iconst (v := (-1)) dX7_type_14 rfl ?_
    refine wp_iret dX7_type_15 rfl rfl ?_
    rw [tTy, if_pos c11] at hQ
    exact hQ
