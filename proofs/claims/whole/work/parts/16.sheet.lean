/-! a STREET read from THE TAPE; SHEETS -/
def pP1 (M : MM) (L p : Nat) : Nat := rdp (M.1 107) L (sk (M.1 107) L p + 1)
def pM2 (M : MM) (L p g : Nat) : MM := sI (owM M L p g).1 106 5 (nI (g + 1))
def pP2 (M : MM) (L p : Nat) : Nat := sk (M.1 107) L (pP1 M L p)
def pM3 (M : MM) (L p g : Nat) : MM := sAt (pM2 M L p g) (pP2 M L p)
def pP3 (M : MM) (L p : Nat) : Nat := rdp (M.1 107) L (rdp (M.1 107) L (pP2 M L p))
def pQ4 (M : MM) (L p g : Nat) : MM × Int32 := qrM (pM3 M L p g) L (pP2 M L p) (g + 1)
def pP4 (M : MM) (L p : Nat) : Nat := sgp (M.1 107) L 44 (pP3 M L p)
def pM5 (M : MM) (L p g : Nat) : MM := sAt (pQ4 M L p g).1 (pP4 M L p)
def xt (M : MM) : MM × Int32 := (M, -20 - M.1 106 7)
def pl (L : Nat) : Nat → Nat → Nat → MM → MM × Int32
  | 0, _, _, M => xt M
  | n + 1, g, p, M =>
    if (owM M L p g).2 = 0 then xt (owM M L p g).1
    else if L ≤ pP2 M L p then (pM3 M L p g, nI (g + 1))
    else if 6 ≤ g + 1 then xt (pM3 M L p g)
    else if (pQ4 M L p g).2 = 0 then xt (pQ4 M L p g).1
    else if sgv (M.1 107) L 44 (pP3 M L p) = 0 then xt (pM5 M L p g)
    else pl L n (g + 1) (pP4 M L p) (pM5 M L p g)
theorem ow_ok {M : MM} {L p g : Nat} (h : ¬ (owM M L p g).2 = 0) : ¬ okq (M.1 107) L p < 0 ∧ ¬ rdv (M.1 107) L (sk (M.1 107) L p + 1) < 0 ∧ (owM M L p g).1 = sI (sI (sAt M (pP1 M L p)) 108 g (okq (M.1 107) L p)) 109 g (rdv (M.1 107) L (sk (M.1 107) L p + 1)) := by
  unfold owM at h ⊢
  split at h
  · exact absurd rfl h
  · split at h
    · exact absurd rfl h
    · rename_i h1 h2
      refine ⟨h1, h2, ?_⟩
      rw [if_neg h1, if_neg h2]
      rfl
theorem qr_ok {M : MM} {L p g : Nat} (h : ¬ (qrM M L p g).2 = 0) : ¬ rdv (M.1 107) L p < 0 ∧ ¬ rdv (M.1 107) L (rdp (M.1 107) L p) < 0 ∧ (qrM M L p g).1 = sI (sAt M (rdp (M.1 107) L (rdp (M.1 107) L p))) 110 (g - 1) (10 * rdv (M.1 107) L p + rdv (M.1 107) L (rdp (M.1 107) L p)) := by
  unfold qrM at h ⊢
  split at h
  · exact absurd rfl h
  · split at h
    · exact absurd rfl h
    · rename_i h1 h2
      refine ⟨h1, h2, ?_⟩
      rw [if_neg h1, if_neg h2]
theorem okq_lt {f : Nat → Int32} {L p : Nat} (h : ¬ okq f L p < 0) : sk f L p < L := by
  rcases Nat.lt_or_ge (sk f L p) L with z | z
  · exact z
  · exact absurd (by rw [okq, if_pos z]; decide) h
set_option maxRecDepth 100000 in
set_option maxHeartbeats 4000000 in
theorem x_X5_parse {κ : KX} {M : MM} {Q : Option Value → va_W → Prop} {x : Int32} (hQ : Q (some (.int (-20 - M.1 106 7))) (wM κ M)) : WP κ (5, 0, 0) mX5_parse 108 [some (rv κ 106), some (.int x)] [] (wM κ M) (0, 0) Q := by
  refine wp_bipush (v := (-20)) dX5_parse_108 rfl ?_
  refine wp_rload_0 dX5_parse_110 ?_
  refine wp_getI fX5_35 dX5_parse_111 kd_106 rfl ?_
  refine wp_isub dX5_parse_114 ?_
  refine wp_iret dX5_parse_115 rfl rfl ?_
  exact hQ
theorem x_X5_parse2 {κ : KX} {M : MM} {Q : Option Value → va_W → Prop} {x : Int32} (hQ : Q (some (.int (xt M).2)) (wM κ (xt M).1)) : WP κ (5, 0, 0) mX5_parse 108 [some (rv κ 106), some (.int x)] [] (wM κ M) (0, 0) Q := x_X5_parse hQ
set_option maxRecDepth 100000 in
set_option maxHeartbeats 4000000 in
theorem l_X5_parse {κ : KX} {Q : Option Value → va_W → Prop} {L : Nat} (h60 : L ≤ 60) : ∀ n g p (M : MM), g + n = 6 → M.1 106 1 = nI L → M.1 106 7 = nI p → M.1 106 5 = nI g → p ≤ 60 → Q (some (.int (pl L n g p M).2)) (wM κ (pl L n g p M).1) → WP κ (5, 0, 0) mX5_parse 32 [some (rv κ 106), some (.int 1)] [] (wM κ M) (0, 0) Q := by
  intro n
  induction n with
  | zero =>
    intro g p M hn hL hp hg hp0 hQ
    refine wp_iload_1 dX5_parse_32 ?_
    refine wp_if_eq (tgt := 108) dX5_parse_33 rfl (fun c33 => absurd c33 (by decide)) (fun c33 => ?_)
    refine wp_rload_0 dX5_parse_36 ?_
    refine wp_getI fX5_29 dX5_parse_37 kd_106 rfl ?_
    rw [hg]
    refine wp_bipush (v := 6) dX5_parse_40 rfl ?_
    refine wp_icmp_ge (tgt := 108) dX5_parse_42 rfl (fun c42 => ?_) (fun c42 => absurd (nI_le (a := 6) (by omega) (by omega)) c42)
    exact x_X5_parse2 hQ
  | succ n ih =>
    intro g p M hn hL hp hg hp0 hQ
    refine wp_iload_1 dX5_parse_32 ?_
    refine wp_if_eq (tgt := 108) dX5_parse_33 rfl (fun c33 => absurd c33 (by decide)) (fun c33 => ?_)
    refine wp_rload_0 dX5_parse_36 ?_
    refine wp_getI fX5_29 dX5_parse_37 kd_106 rfl ?_
    rw [hg]
    refine wp_bipush (v := 6) dX5_parse_40 rfl ?_
    refine wp_icmp_ge (tgt := 108) dX5_parse_42 rfl (fun c42 => absurd c42 (nI_ge (b := 6) (by omega) (by omega))) (fun c42 => ?_)
    refine wp_rload_0 dX5_parse_45 ?_
    refine wp_callV_0 kX5_46 dX5_parse_46 kd_106 rfl (c_X5_readOwner (p := p) hL hp h60 (by omega) hg (by omega) ?_) ⟨Nat.le_of_ble_eq_true rfl, Nat.le_of_ble_eq_true rfl, Nat.le_of_ble_eq_true rfl⟩ (Nat.le_of_ble_eq_true rfl)
    refine wp_if_eq (tgt := 108) dX5_parse_49 rfl (fun c49 => ?_) (fun c49 => ?_)
    · rw [show pl L (n + 1) g p M = xt (owM M L p g).1 from if_pos c49] at hQ
      exact x_X5_parse2 hQ
    · obtain ⟨ho1, ho2, ho3⟩ := ow_ok c49
      have hsk := okq_lt ho1
      have hP1 : pP1 M L p ≤ 60 := rdp_le (by omega) h60
      have hg1 : (owM M L p g).1.1 106 5 = nI g := by rw [ho3]; exact hg
      have hL1 : (owM M L p g).1.1 106 1 = nI L := by rw [ho3]; exact hL
      have hp1 : (owM M L p g).1.1 106 7 = nI (pP1 M L p) := by rw [ho3]; exact sI_same M 106 7 (nI (pP1 M L p))
      have hf1 : (owM M L p g).1.1 107 = M.1 107 := by rw [ho3]; rfl
      refine wp_rload_0 dX5_parse_52 ?_
      refine wp_dup_rv dX5_parse_53 ?_
      refine wp_getI fX5_29 dX5_parse_54 kd_106 rfl ?_
      rw [hg1]
      refine wp_iconst (v := 1) dX5_parse_57 rfl ?_
      refine wp_iadd dX5_parse_58 ?_
      rw [nI_1]
      refine wp_putI fX5_29 dX5_parse_59 kd_106 rfl rfl ?_
      refine wp_rload_0 dX5_parse_62 ?_
      show WP κ (5, 0, 0) mX5_parse 63 _ _ (wM κ (pM2 M L p g)) _ Q
      refine wp_callV_0 kX5_49 dX5_parse_63 kd_106 rfl (c_X5_atEnd (M := pM2 M L p g) (L := L) (p := pP1 M L p) hL1 hp1 h60 (by omega) ?_) ⟨Nat.le_of_ble_eq_true rfl, Nat.le_of_ble_eq_true rfl, Nat.le_of_ble_eq_true rfl⟩ (Nat.le_of_ble_eq_true rfl)
      rw [show (pM2 M L p g).1 107 = M.1 107 from hf1]
      show WP κ (5, 0, 0) mX5_parse 66 _ (psh (some (.int (if L ≤ pP2 M L p then 1 else 0))) []) (wM κ (pM3 M L p g)) _ Q
      refine wp_if_eq (tgt := 74) dX5_parse_66 rfl (fun c66 => ?_) (fun c66 => ?_)
      · refine wp_rload_0 dX5_parse_74 ?_
        refine wp_getI fX5_29 dX5_parse_75 kd_106 rfl ?_
        rw [show (pM3 M L p g).1 106 5 = nI (g + 1) from sI_same (owM M L p g).1 106 5 (nI (g + 1))]
        refine wp_bipush (v := 6) dX5_parse_78 rfl ?_
        refine wp_icmp_ge (tgt := 103) dX5_parse_80 rfl (fun c80 => ?_) (fun c80 => ?_)
        · have c81 : 6 ≤ g + 1 := by
            rcases Nat.lt_or_ge (g + 1) 6 with z | z
            · exact absurd c80 (nI_ge (b := 6) z (by decide))
            · exact z
          refine wp_iconst (v := 0) dX5_parse_103 rfl ?_
          refine wp_istore_1 dX5_parse_104 (Nat.le_of_ble_eq_true rfl) rfl ?_
          refine wp_goto (tgt := 32) dX5_parse_105 rfl ?_
          refine wp_iload_1 dX5_parse_32 ?_
          refine wp_if_eq (tgt := 108) dX5_parse_33 rfl (fun _ => ?_) (fun zz => absurd rfl zz)
          first
            | (rw [show pl L (n + 1) g p M = xt (pM3 M L p g) from (if_neg c49).trans ((if_neg (ite_eq c66)).trans (if_pos c81))] at hQ; exact x_X5_parse2 hQ)
            | (rw [show pl L (n + 1) g p M = xt (pQ4 M L p g).1 from (if_neg c49).trans ((if_neg (ite_eq c66)).trans ((if_neg c81).trans (if_pos c87)))] at hQ; exact x_X5_parse2 hQ)
            | (rw [show pl L (n + 1) g p M = xt (pM5 M L p g) from (if_neg c49).trans ((if_neg (ite_eq c66)).trans ((if_neg c81).trans ((if_neg c87).trans (if_pos c96))))] at hQ; exact x_X5_parse2 hQ)
        · have c81 : ¬ 6 ≤ g + 1 := fun z => c80 (nI_le (a := 6) z (by omega))
          refine wp_rload_0 dX5_parse_83 ?_
          refine wp_callV_0 kX5_52 dX5_parse_84 kd_106 rfl (c_X5_readQuarrel (M := pM3 M L p g) (L := L) (p := pP2 M L p) (g := g + 1) hL1 (sI_same _ _ _ _) h60 (Nat.le_trans (sk_le hP1 h60) (by decide)) (sI_same (owM M L p g).1 106 5 (nI (g + 1))) (by omega) (by omega) ?_) ⟨Nat.le_of_ble_eq_true rfl, Nat.le_of_ble_eq_true rfl, Nat.le_of_ble_eq_true rfl⟩ (Nat.le_of_ble_eq_true rfl)
          show WP κ (5, 0, 0) mX5_parse 87 _ (psh (some (.int (pQ4 M L p g).2)) []) (wM κ (pQ4 M L p g).1) _ Q
          refine wp_if_eq (tgt := 103) dX5_parse_87 rfl (fun c87 => ?_) (fun c87 => ?_)
          · refine wp_iconst (v := 0) dX5_parse_103 rfl ?_
            refine wp_istore_1 dX5_parse_104 (Nat.le_of_ble_eq_true rfl) rfl ?_
            refine wp_goto (tgt := 32) dX5_parse_105 rfl ?_
            refine wp_iload_1 dX5_parse_32 ?_
            refine wp_if_eq (tgt := 108) dX5_parse_33 rfl (fun _ => ?_) (fun zz => absurd rfl zz)
            first
              | (rw [show pl L (n + 1) g p M = xt (pM3 M L p g) from (if_neg c49).trans ((if_neg (ite_eq c66)).trans (if_pos c81))] at hQ; exact x_X5_parse2 hQ)
              | (rw [show pl L (n + 1) g p M = xt (pQ4 M L p g).1 from (if_neg c49).trans ((if_neg (ite_eq c66)).trans ((if_neg c81).trans (if_pos c87)))] at hQ; exact x_X5_parse2 hQ)
              | (rw [show pl L (n + 1) g p M = xt (pM5 M L p g) from (if_neg c49).trans ((if_neg (ite_eq c66)).trans ((if_neg c81).trans ((if_neg c87).trans (if_pos c96))))] at hQ; exact x_X5_parse2 hQ)
          · obtain ⟨hq1, hq2, hq3⟩ := qr_ok c87
            have hf3 : (pM3 M L p g).1 107 = M.1 107 := hf1
            rw [hf3] at hq1 hq2 hq3
            have hP2 : pP2 M L p ≤ 60 := sk_le hP1 h60
            have hP3 : pP3 M L p ≤ 60 := rdp_le (rdp_le hP2 h60) h60
            have hL4 : (pQ4 M L p g).1.1 106 1 = nI L := by rw [show (pQ4 M L p g).1 = _ from hq3]; exact hL1
            have hp4 : (pQ4 M L p g).1.1 106 7 = nI (pP3 M L p) := by rw [show (pQ4 M L p g).1 = _ from hq3]; exact sI_same (pM3 M L p g) 106 7 (nI (pP3 M L p))
            have hg4 : (pQ4 M L p g).1.1 106 5 = nI (g + 1) := by rw [show (pQ4 M L p g).1 = _ from hq3]; exact sI_same (owM M L p g).1 106 5 (nI (g + 1))
            have hf4 : (pQ4 M L p g).1.1 107 = M.1 107 := by rw [show (pQ4 M L p g).1 = _ from hq3]; exact hf3
            refine wp_rload_0 dX5_parse_90 ?_
            refine wp_bipush (v := 44) dX5_parse_91 rfl ?_
            refine wp_callV_1 kX5_42 dX5_parse_93 kd_106 rfl (c_X5_readSign (M := (pQ4 M L p g).1) (L := L) (p := pP3 M L p) hL4 hp4 h60 (by omega) ?_) ⟨Nat.le_of_ble_eq_true rfl, Nat.le_of_ble_eq_true rfl, Nat.le_of_ble_eq_true rfl⟩ (Nat.le_of_ble_eq_true rfl)
            rw [hf4]
            show WP κ (5, 0, 0) mX5_parse 96 _ (psh (some (.int (sgv (M.1 107) L 44 (pP3 M L p)))) []) (wM κ (pM5 M L p g)) _ Q
            refine wp_if_eq (tgt := 103) dX5_parse_96 rfl (fun c96 => ?_) (fun c96 => ?_)
            · refine wp_iconst (v := 0) dX5_parse_103 rfl ?_
              refine wp_istore_1 dX5_parse_104 (Nat.le_of_ble_eq_true rfl) rfl ?_
              refine wp_goto (tgt := 32) dX5_parse_105 rfl ?_
              refine wp_iload_1 dX5_parse_32 ?_
              refine wp_if_eq (tgt := 108) dX5_parse_33 rfl (fun _ => ?_) (fun zz => absurd rfl zz)
              first
                | (rw [show pl L (n + 1) g p M = xt (pM3 M L p g) from (if_neg c49).trans ((if_neg (ite_eq c66)).trans (if_pos c81))] at hQ; exact x_X5_parse2 hQ)
                | (rw [show pl L (n + 1) g p M = xt (pQ4 M L p g).1 from (if_neg c49).trans ((if_neg (ite_eq c66)).trans ((if_neg c81).trans (if_pos c87)))] at hQ; exact x_X5_parse2 hQ)
                | (rw [show pl L (n + 1) g p M = xt (pM5 M L p g) from (if_neg c49).trans ((if_neg (ite_eq c66)).trans ((if_neg c81).trans ((if_neg c87).trans (if_pos c96))))] at hQ; exact x_X5_parse2 hQ)
            · refine wp_iconst (v := 1) dX5_parse_99 rfl ?_
              refine wp_goto (tgt := 104) dX5_parse_100 rfl ?_
              refine wp_istore_1 dX5_parse_104 (Nat.le_of_ble_eq_true rfl) rfl ?_
              refine wp_goto (tgt := 32) dX5_parse_105 rfl ?_
              rw [show pl L (n + 1) g p M = pl L n (g + 1) (pP4 M L p) (pM5 M L p g) from (if_neg c49).trans ((if_neg (ite_eq c66)).trans ((if_neg c81).trans ((if_neg c87).trans (if_neg c96))))] at hQ
              refine ih (g + 1) (pP4 M L p) (pM5 M L p g) (by omega) ?_ (sI_same _ _ _ _) ?_ (sgp_le hP3 h60) hQ
              · exact hL4
              · exact hg4
      · refine wp_rload_0 dX5_parse_69 ?_
        refine wp_getI fX5_29 dX5_parse_70 kd_106 rfl ?_
        rw [show (pM3 M L p g).1 106 5 = nI (g + 1) from sI_same (owM M L p g).1 106 5 (nI (g + 1))]
        refine wp_iret dX5_parse_73 rfl rfl ?_
        rw [show pl L (n + 1) g p M = (pM3 M L p g, nI (g + 1)) from (if_neg c49).trans (if_pos (ite_ne c66))] at hQ
        exact hQ
def pr0 (M : MM) : MM := sI (sI M 106 7 0) 106 5 0
def pYM (M : MM) (L : Nat) : MM := sI (sAt (pr0 M) (yrp (M.1 107) L 0)) 106 6 (yrv (M.1 107) L 0)
def pr1 (M : MM) (L : Nat) : MM := sAt (pYM M L) (sgp (M.1 107) L 59 (yrp (M.1 107) L 0))
def prs (M : MM) (L : Nat) : MM × Int32 := if (yrM (pr0 M) L 0).2 = 0 then xt (yrM (pr0 M) L 0).1 else if sgv (M.1 107) L 59 (yrp (M.1 107) L 0) = 0 then xt (pr1 M L) else pl L 6 0 (sgp (M.1 107) L 59 (yrp (M.1 107) L 0)) (pr1 M L)
theorem yr_ok {M : MM} {L p : Nat} (h : ¬ (yrM M L p).2 = 0) : ¬ rdv (M.1 107) L p < 0 ∧ ¬ wi (yrv (M.1 107) L p) 2 52 = 0 ∧ (yrM M L p).1 = sI (sAt M (yrp (M.1 107) L p)) 106 6 (yrv (M.1 107) L p) := by
  unfold yrM at h ⊢
  split at h
  · exact absurd rfl h
  · split at h
    · exact absurd rfl h
    · rename_i h1 h2
      refine ⟨h1, h2, ?_⟩
      rw [if_neg h1, if_neg h2]
theorem yrp_le {f : Nat → Int32} {L p N : Nat} (h : p ≤ N) (hL : L ≤ N) : yrp f L p ≤ N := by
  unfold yrp
  split
  · have := dgb_lt ‹_›
    omega
  · exact rdp_le h hL
set_option maxRecDepth 100000 in
set_option maxHeartbeats 4000000 in
theorem c_X5_parse {κ : KX} {M : MM} {Q : Option Value → va_W → Prop} {L : Nat} (hL : M.1 106 1 = nI L) (h60 : L ≤ 60) (hQ : Q (some (.int (prs M L).2)) (wM κ ((prs M L).1))) : CT κ (5, 0, 0) mX5_parse [rv κ 106] (wM κ M) Q := by
  refine CT.of okX5_parse [some (rv κ 106), none] (Nat.le_of_ble_eq_true rfl) rfl ?_
  refine wp_rload_0 dX5_parse_0 ?_
  refine wp_iconst (v := 0) dX5_parse_1 rfl ?_
  refine wp_putI fX5_35 dX5_parse_2 kd_106 rfl rfl ?_
  refine wp_rload_0 dX5_parse_5 ?_
  refine wp_iconst (v := 0) dX5_parse_6 rfl ?_
  refine wp_putI fX5_29 dX5_parse_7 kd_106 rfl rfl ?_
  refine wp_rload_0 dX5_parse_10 ?_
  refine wp_callV_0 kX5_38 dX5_parse_11 kd_106 rfl (c_X5_readYear (M := pr0 M) (L := L) (p := 0) hL rfl h60 (by decide) ?_) ⟨Nat.le_of_ble_eq_true rfl, Nat.le_of_ble_eq_true rfl, Nat.le_of_ble_eq_true rfl⟩ (Nat.le_of_ble_eq_true rfl)
  refine wp_if_eq (tgt := 30) dX5_parse_14 rfl (fun c14 => ?_) (fun c14 => ?_)
  · refine wp_iconst (v := 0) dX5_parse_30 rfl ?_
    refine wp_istore_1 dX5_parse_31 (Nat.le_of_ble_eq_true rfl) rfl ?_
    refine wp_iload_1 dX5_parse_32 ?_
    refine wp_if_eq (tgt := 108) dX5_parse_33 rfl (fun _ => ?_) (fun zz => absurd rfl zz)
    first
      | (rw [show prs M L = xt (yrM (pr0 M) L 0).1 from if_pos c14] at hQ; exact x_X5_parse2 hQ)
      | (rw [show prs M L = xt (pr1 M L) from (if_neg c14).trans (if_pos c23)] at hQ; exact x_X5_parse2 hQ)
  · obtain ⟨hy1, hy2, hy3⟩ := yr_ok c14
    have hy3 : (yrM (pr0 M) L 0).1 = pYM M L := hy3
    rw [hy3]
    have hyp : yrp (M.1 107) L 0 ≤ 60 := yrp_le (by decide) h60
    refine wp_rload_0 dX5_parse_17 ?_
    refine wp_bipush (v := 59) dX5_parse_18 rfl ?_
    refine wp_callV_1 kX5_42 dX5_parse_20 kd_106 rfl (c_X5_readSign (M := pYM M L) (L := L) (p := yrp (M.1 107) L 0) hL (sI_same (pr0 M) 106 7 (nI (yrp (M.1 107) L 0))) h60 (by omega) ?_) ⟨Nat.le_of_ble_eq_true rfl, Nat.le_of_ble_eq_true rfl, Nat.le_of_ble_eq_true rfl⟩ (Nat.le_of_ble_eq_true rfl)
    refine wp_if_eq (tgt := 30) dX5_parse_23 rfl (fun c23 => ?_) (fun c23 => ?_)
    · refine wp_iconst (v := 0) dX5_parse_30 rfl ?_
      refine wp_istore_1 dX5_parse_31 (Nat.le_of_ble_eq_true rfl) rfl ?_
      refine wp_iload_1 dX5_parse_32 ?_
      refine wp_if_eq (tgt := 108) dX5_parse_33 rfl (fun _ => ?_) (fun zz => absurd rfl zz)
      first
        | (rw [show prs M L = xt (yrM (pr0 M) L 0).1 from if_pos c14] at hQ; exact x_X5_parse2 hQ)
        | (rw [show prs M L = xt (pr1 M L) from (if_neg c14).trans (if_pos c23)] at hQ; exact x_X5_parse2 hQ)
    · refine wp_iconst (v := 1) dX5_parse_26 rfl ?_
      refine wp_goto (tgt := 31) dX5_parse_27 rfl ?_
      refine wp_istore_1 dX5_parse_31 (Nat.le_of_ble_eq_true rfl) rfl ?_
      rw [show prs M L = pl L 6 0 (sgp (M.1 107) L 59 (yrp (M.1 107) L 0)) (pr1 M L) from (if_neg c14).trans (if_neg c23)] at hQ
      exact l_X5_parse h60 6 0 _ (pr1 M L) rfl hL (sI_same _ _ _ _) rfl (sgp_le hyp h60) hQ
def rz (k : Nat) (M : MM) : Nat → MM
  | 0 => M
  | j + 1 => sL (rz k M j) (k + 1) j 0
def rnw (k : Nat) (M : MM) (l z : Int32) : MM := rz k (sI (sI (sI M k 1 1) k 2 l) k 3 z) 24
set_option maxRecDepth 100000 in
set_option maxHeartbeats 4000000 in
theorem l_X2_renew {κ : KX} {M : MM} {Q : Option Value → va_W → Prop} {k : Nat} {l z : Int32} (hk : Sh k) (hx : WP κ (0, 0, 0) mX2_renew 36 [some (rv κ k), some (.int l), some (.int z), some (.int (nI 24))] [] (wM κ (rz k M 24)) (0, 0) Q) : ∀ n j, j + n = 24 → WP κ (0, 0, 0) mX2_renew 17 [some (rv κ k), some (.int l), some (.int z), some (.int (nI j))] [] (wM κ (rz k M j)) (0, 0) Q := by
  intro n
  induction n with
  | zero =>
    intro j hn
    have hn : j = 24 := hn
    refine wp_iload_3 dX2_renew_17 ?_
    refine wp_bipush (v := 24) dX2_renew_18 rfl ?_
    refine wp_icmp_ge (tgt := 36) dX2_renew_20 rfl (fun c20 => ?_) (fun c20 => absurd (nI_le (a := 24) (by omega) (by omega)) c20)
    subst hn
    exact hx
  | succ n ih =>
    intro j hn
    refine wp_iload_3 dX2_renew_17 ?_
    refine wp_bipush (v := 24) dX2_renew_18 rfl ?_
    refine wp_icmp_ge (tgt := 36) dX2_renew_20 rfl (fun c20 => absurd c20 (nI_ge (b := 24) (by omega) (by omega))) (fun c20 => ?_)
    refine wp_rload_0 dX2_renew_23 ?_
    refine wp_getR (t := (k + 1)) fX2_9 dX2_renew_24 hk.1 rfl (rf_sh hk.1 0) ?_
    refine wp_iload_3 dX2_renew_27 ?_
    refine wp_lconst (v := 0) dX2_renew_28 rfl ?_
    refine wp_last (j := j) dX2_renew_29 hk.2.1 (rfl) (by rw [hk.2.2]; omega) ?_
    refine wp_iinc_3 (v := nI (j + 1)) dX2_renew_30 (nI_inc _) (Nat.le_of_ble_eq_true rfl) rfl ?_
    refine wp_goto (tgt := 17) dX2_renew_33 rfl ?_
    exact ih (j + 1) (by omega)
set_option maxRecDepth 100000 in
set_option maxHeartbeats 4000000 in
theorem c_X2_renew {κ : KX} {M : MM} {Q : Option Value → va_W → Prop} {k : Nat} {l z : Int32} (hk : Sh k) (hQ : Q (none) (wM κ (rnw k M l z))) : CT κ (0, 0, 0) mX2_renew [rv κ k, .int l, .int z] (wM κ M) Q := by
  refine CT.of okX2_renew [some (rv κ k), some (.int l), some (.int z), none] (Nat.le_of_ble_eq_true rfl) rfl ?_
  refine wp_rload_0 dX2_renew_0 ?_
  refine wp_iconst (v := 1) dX2_renew_1 rfl ?_
  refine wp_putZ fX2_15 dX2_renew_2 hk.1 rfl rfl rfl rfl ?_
  refine wp_rload_0 dX2_renew_5 ?_
  refine wp_iload_1 dX2_renew_6 ?_
  refine wp_putI fX2_19 dX2_renew_7 hk.1 rfl rfl ?_
  refine wp_rload_0 dX2_renew_10 ?_
  refine wp_iload_2 dX2_renew_11 ?_
  refine wp_putI fX2_23 dX2_renew_12 hk.1 rfl rfl ?_
  refine wp_iconst (v := 0) dX2_renew_15 rfl ?_
  refine wp_istore_3 dX2_renew_16 (Nat.le_of_ble_eq_true rfl) rfl ?_
  refine l_X2_renew hk ?_ 24 0 (by omega)
  refine wp_vret dX2_renew_36 rfl rfl ?_
  exact hQ
def hsS (len x z : Int32) : Int32 := if x < 0 then 0 else if z < 0 then 0 else if len - z < x then 0 else 1
set_option maxRecDepth 100000 in
set_option maxHeartbeats 4000000 in
theorem c_X2_has {κ : KX} {M : MM} {Q : Option Value → va_W → Prop} {k : Nat} {x z : Int32} (hk : Sh k) (hQ : Q (some (.int (hsS (M.1 k 3) x z))) (wM κ (M))) : CT κ (0, 0, 0) mX2_has [rv κ k, .int x, .int z] (wM κ M) Q := by
  refine CT.of okX2_has [some (rv κ k), some (.int x), some (.int z)] (Nat.le_of_ble_eq_true rfl) rfl ?_
  refine wp_iload_1 dX2_has_0 ?_
  refine wp_if_lt (tgt := 22) dX2_has_1 rfl (fun c1 => ?_) (fun c1 => ?_)
  · refine wp_iconst (v := 0) dX2_has_22 rfl ?_
    refine wp_zret dX2_has_23 rfl rfl rfl ?_
    exact Qe hQ (by simp [hsS, *]) rfl
  · refine wp_iload_2 dX2_has_4 ?_
    refine wp_if_lt (tgt := 22) dX2_has_5 rfl (fun c5 => ?_) (fun c5 => ?_)
    · refine wp_iconst (v := 0) dX2_has_22 rfl ?_
      refine wp_zret dX2_has_23 rfl rfl rfl ?_
      exact Qe hQ (by simp [hsS, *]) rfl
    · refine wp_iload_1 dX2_has_8 ?_
      refine wp_rload_0 dX2_has_9 ?_
      refine wp_getI fX2_23 dX2_has_10 hk.1 rfl ?_
      refine wp_iload_2 dX2_has_13 ?_
      refine wp_isub dX2_has_14 ?_
      refine wp_icmp_gt (tgt := 22) dX2_has_15 rfl (fun c15 => ?_) (fun c15 => ?_)
      · refine wp_iconst (v := 0) dX2_has_22 rfl ?_
        refine wp_zret dX2_has_23 rfl rfl rfl ?_
        exact Qe hQ (by simp [hsS, *]) rfl
      · refine wp_iconst (v := 1) dX2_has_18 rfl ?_
        refine wp_goto (tgt := 23) dX2_has_19 rfl ?_
        refine wp_zret dX2_has_23 rfl rfl rfl ?_
        exact Qe hQ (by simp [hsS, *]) rfl
def rfS (M : MM) (k : Nat) (l x z : Int32) : Int32 := if M.1 k 1 = 0 then -11 else if ¬ M.1 k 2 = l then -12 else if hsS (M.1 k 3) x z = 0 then -13 else 0
set_option maxRecDepth 100000 in
set_option maxHeartbeats 4000000 in
theorem c_X2_refusal {κ : KX} {M : MM} {Q : Option Value → va_W → Prop} {k : Nat} {l x z : Int32} (hk : Sh k) (hQ : Q (some (.int (rfS M k l x z))) (wM κ (M))) : CT κ (1, 0, 0) mX2_refusal [rv κ k, .int l, .int x, .int z] (wM κ M) Q := by
  refine CT.of okX2_refusal [some (rv κ k), some (.int l), some (.int x), some (.int z)] (Nat.le_of_ble_eq_true rfl) rfl ?_
  refine wp_rload_0 dX2_refusal_0 ?_
  refine wp_getI fX2_15 dX2_refusal_1 hk.1 rfl ?_
  refine wp_if_ne (tgt := 10) dX2_refusal_4 rfl (fun c4 => ?_) (fun c4 => ?_)
  · refine wp_rload_0 dX2_refusal_10 ?_
    refine wp_getI fX2_19 dX2_refusal_11 hk.1 rfl ?_
    refine wp_iload_1 dX2_refusal_14 ?_
    refine wp_icmp_eq (tgt := 21) dX2_refusal_15 rfl (fun c15 => ?_) (fun c15 => ?_)
    · refine wp_rload_0 dX2_refusal_21 ?_
      refine wp_iload_2 dX2_refusal_22 ?_
      refine wp_iload_3 dX2_refusal_23 ?_
      refine wp_callV_2 kX2_26 dX2_refusal_24 hk.1 rfl (c_X2_has hk ?_) ⟨Nat.le_of_ble_eq_true rfl, Nat.le_of_ble_eq_true rfl, Nat.le_of_ble_eq_true rfl⟩ (Nat.le_of_ble_eq_true rfl)
      refine wp_if_eq (tgt := 34) dX2_refusal_27 rfl (fun c27 => ?_) (fun c27 => ?_)
      · refine wp_bipush (v := (-13)) dX2_refusal_34 rfl ?_
        refine wp_iret dX2_refusal_36 rfl rfl ?_
        refine Qe hQ ?_ rfl
        first
          | (rw [rfS, if_pos c4]; done)
          | (rw [rfS, if_neg c4, if_pos c15]; done)
          | (rw [rfS, if_neg c4, if_neg (fun z => z c15), if_pos c27]; done)
          | (rw [rfS, if_neg c4, if_neg (fun z => z c15), if_neg c27]; done)
      · refine wp_iconst (v := 0) dX2_refusal_30 rfl ?_
        refine wp_goto (tgt := 36) dX2_refusal_31 rfl ?_
        refine wp_iret dX2_refusal_36 rfl rfl ?_
        refine Qe hQ ?_ rfl
        first
          | (rw [rfS, if_pos c4]; done)
          | (rw [rfS, if_neg c4, if_pos c15]; done)
          | (rw [rfS, if_neg c4, if_neg (fun z => z c15), if_pos c27]; done)
          | (rw [rfS, if_neg c4, if_neg (fun z => z c15), if_neg c27]; done)
    · refine wp_bipush (v := (-12)) dX2_refusal_18 rfl ?_
      refine wp_iret dX2_refusal_20 rfl rfl ?_
      refine Qe hQ ?_ rfl
      first
        | (rw [rfS, if_pos c4]; done)
        | (rw [rfS, if_neg c4, if_pos c15]; done)
        | (rw [rfS, if_neg c4, if_neg (fun z => z c15), if_pos c27]; done)
        | (rw [rfS, if_neg c4, if_neg (fun z => z c15), if_neg c27]; done)
  · refine wp_bipush (v := (-11)) dX2_refusal_7 rfl ?_
    refine wp_iret dX2_refusal_9 rfl rfl ?_
    refine Qe hQ ?_ rfl
    first
      | (rw [rfS, if_pos c4]; done)
      | (rw [rfS, if_neg c4, if_pos c15]; done)
      | (rw [rfS, if_neg c4, if_neg (fun z => z c15), if_pos c27]; done)
      | (rw [rfS, if_neg c4, if_neg (fun z => z c15), if_neg c27]; done)
def ctS (l : Int32) (v : Int64) : Int64 := if l = 0 then v.toInt32.toInt8.toInt32.toInt64 else if l = 1 then v.toInt32.toInt16.toInt32.toInt64 else if l = 2 then v.toInt32.toInt64 else v
def ptS (k : Nat) (M : MM) (a : Nat) (v : Int64) : MM := sL M (k + 1) a (ctS (M.1 k 2) v)
set_option maxRecDepth 100000 in
set_option maxHeartbeats 4000000 in
theorem c_X2_put {κ : KX} {M : MM} {Q : Option Value → va_W → Prop} {k a : Nat} {v : Int64} (hk : Sh k) (ha : a < 24) (hQ : Q (none) (wM κ (ptS k M a v))) : CT κ (0, 0, 0) mX2_put [rv κ k, .int (nI a), .long v] (wM κ M) Q := by
  refine CT.of okX2_put [some (rv κ k), some (.int (nI a)), some (.long v), none] (Nat.le_of_ble_eq_true rfl) rfl ?_
  refine wp_rload_0 dX2_put_0 ?_
  refine wp_getI fX2_19 dX2_put_1 hk.1 rfl ?_
  generalize hl : M.1 k 2 = l at hQ ⊢
  refine sw_0_2 l (fun hzQ => ?_) (fun hzQ => ?_) (fun hzQ => ?_) (fun hzQ => ?_)
  · rw [hzQ]
    refine wp_switch dX2_put_4 32 rfl (fun _ => (Nat.le_of_ble_eq_true rfl)) ?_
    refine wp_rload_0 dX2_put_32 ?_
    refine wp_getR (t := (k + 1)) fX2_9 dX2_put_33 hk.1 rfl (rf_sh hk.1 0) ?_
    refine wp_iload_1 dX2_put_36 ?_
    refine wp_lload_2 dX2_put_37 ?_
    refine wp_l2i dX2_put_38 ?_
    refine wp_i2b dX2_put_39 ?_
    refine wp_i2l dX2_put_40 ?_
    refine wp_last (j := a) dX2_put_41 hk.2.1 (rfl) (by rw [hk.2.2]; omega) ?_
    refine wp_goto (tgt := 77) dX2_put_42 rfl ?_
    refine wp_vret dX2_put_77 rfl rfl ?_
    refine Qv hQ ?_
    first
      | (simp only [ptS, ctS, hl, hzQ]; rfl)
      | (have e0 : ¬ l = 0 := sw_default (k := 0) hzQ (by decide) (by decide) (by decide)
         have e1 : ¬ l = 1 := sw_default (k := 1) hzQ (by decide) (by decide) (by decide)
         have e2 : ¬ l = 2 := sw_default (k := 2) hzQ (by decide) (by decide) (by decide)
         simp only [ptS, ctS, hl, e0, e1, e2, if_false]; done)
  · rw [hzQ]
    refine wp_switch dX2_put_4 45 rfl (fun _ => (Nat.le_of_ble_eq_true rfl)) ?_
    refine wp_rload_0 dX2_put_45 ?_
    refine wp_getR (t := (k + 1)) fX2_9 dX2_put_46 hk.1 rfl (rf_sh hk.1 0) ?_
    refine wp_iload_1 dX2_put_49 ?_
    refine wp_lload_2 dX2_put_50 ?_
    refine wp_l2i dX2_put_51 ?_
    refine wp_i2s dX2_put_52 ?_
    refine wp_i2l dX2_put_53 ?_
    refine wp_last (j := a) dX2_put_54 hk.2.1 (rfl) (by rw [hk.2.2]; omega) ?_
    refine wp_goto (tgt := 77) dX2_put_55 rfl ?_
    refine wp_vret dX2_put_77 rfl rfl ?_
    refine Qv hQ ?_
    first
      | (simp only [ptS, ctS, hl, hzQ]; rfl)
      | (have e0 : ¬ l = 0 := sw_default (k := 0) hzQ (by decide) (by decide) (by decide)
         have e1 : ¬ l = 1 := sw_default (k := 1) hzQ (by decide) (by decide) (by decide)
         have e2 : ¬ l = 2 := sw_default (k := 2) hzQ (by decide) (by decide) (by decide)
         simp only [ptS, ctS, hl, e0, e1, e2, if_false]; done)
  · rw [hzQ]
    refine wp_switch dX2_put_4 58 rfl (fun _ => (Nat.le_of_ble_eq_true rfl)) ?_
    refine wp_rload_0 dX2_put_58 ?_
    refine wp_getR (t := (k + 1)) fX2_9 dX2_put_59 hk.1 rfl (rf_sh hk.1 0) ?_
    refine wp_iload_1 dX2_put_62 ?_
    refine wp_lload_2 dX2_put_63 ?_
    refine wp_l2i dX2_put_64 ?_
    refine wp_i2l dX2_put_65 ?_
    refine wp_last (j := a) dX2_put_66 hk.2.1 (rfl) (by rw [hk.2.2]; omega) ?_
    refine wp_goto (tgt := 77) dX2_put_67 rfl ?_
    refine wp_vret dX2_put_77 rfl rfl ?_
    refine Qv hQ ?_
    first
      | (simp only [ptS, ctS, hl, hzQ]; rfl)
      | (have e0 : ¬ l = 0 := sw_default (k := 0) hzQ (by decide) (by decide) (by decide)
         have e1 : ¬ l = 1 := sw_default (k := 1) hzQ (by decide) (by decide) (by decide)
         have e2 : ¬ l = 2 := sw_default (k := 2) hzQ (by decide) (by decide) (by decide)
         simp only [ptS, ctS, hl, e0, e1, e2, if_false]; done)
  · refine wp_switch dX2_put_4 70 (by rw [if_pos hzQ]; rfl) (fun q => absurd hzQ q) ?_
    refine wp_rload_0 dX2_put_70 ?_
    refine wp_getR (t := (k + 1)) fX2_9 dX2_put_71 hk.1 rfl (rf_sh hk.1 0) ?_
    refine wp_iload_1 dX2_put_74 ?_
    refine wp_lload_2 dX2_put_75 ?_
    refine wp_last (j := a) dX2_put_76 hk.2.1 (rfl) (by rw [hk.2.2]; omega) ?_
    refine wp_vret dX2_put_77 rfl rfl ?_
    refine Qv hQ ?_
    first
      | (simp only [ptS, ctS, hl, hzQ]; rfl)
      | (have e0 : ¬ l = 0 := sw_default (k := 0) hzQ (by decide) (by decide) (by decide)
         have e1 : ¬ l = 1 := sw_default (k := 1) hzQ (by decide) (by decide) (by decide)
         have e2 : ¬ l = 2 := sw_default (k := 2) hzQ (by decide) (by decide) (by decide)
         simp only [ptS, ctS, hl, e0, e1, e2, if_false]; done)
