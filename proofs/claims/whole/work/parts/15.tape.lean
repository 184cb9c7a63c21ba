/-! THE TAPE, and SHEETS -/
theorem sI_id {M : MM} {k j : Nat} {v : Int32} (h : M.1 k j = v) : sI M k j v = M := by
  refine Prod.ext ?_ rfl
  funext a b
  by_cases ha : a = k
  · subst ha
    by_cases hb : b = j
    · subst hb; simp [sI, upd, h]
    · simp [sI, upd, hb]
  · simp [sI, ha]
theorem sI_sI (M : MM) (k j : Nat) (u v : Int32) : sI (sI M k j u) k j v = sI M k j v := by
  refine Prod.ext ?_ rfl
  funext a b
  by_cases ha : a = k
  · subst ha
    by_cases hb : b = j
    · subst hb; simp [sI, upd]
    · simp [sI, upd, hb]
  · simp [sI, ha]
theorem ite_ne {P : Prop} [Decidable P] (h : ¬ (if P then (1 : Int32) else 0) = 0) : P := by
  by_cases hp : P
  · exact hp
  · rw [if_neg hp] at h; exact absurd rfl h
theorem ite_eq {P : Prop} [Decidable P] (h : (if P then (1 : Int32) else 0) = 0) : ¬ P := by
  intro hp
  rw [if_pos hp] at h
  exact absurd h (by decide)
theorem nar_ite {P : Prop} [Decidable P] : narrow .boolean (.int (if P then (1 : Int32) else 0)) = .int (if P then (1 : Int32) else 0) := by
  by_cases hp : P
  · rw [if_pos hp]; rfl
  · rw [if_neg hp]; rfl
def sAt (M : MM) (p : Nat) : MM := sI M 106 7 (nI p)
theorem sAt_up (M : MM) (p : Nat) : sI (sAt M p) 106 7 (nI p + 1) = sAt M (p + 1) := by
  rw [sAt, sI_sI, nI_1]; rfl
theorem sAt_107 (M : MM) (p : Nat) : (sAt M p).1 107 = M.1 107 := rfl
theorem sAt_sAt (M : MM) (p q : Nat) : sAt (sAt M p) q = sAt M q := sI_sI _ _ _ _ _
def skn (f : Nat → Int32) : Nat → Nat → Nat
  | 0, p => p
  | n + 1, p => if f p = 32 then skn f n (p + 1) else p
def sk (f : Nat → Int32) (L p : Nat) : Nat := skn f (L - p) p
theorem skn_le (f : Nat → Int32) : ∀ n p, p ≤ skn f n p ∧ skn f n p ≤ p + n
  | 0, p => ⟨Nat.le_refl _, Nat.le_refl _⟩
  | n + 1, p => by
    have ih := skn_le f n (p + 1)
    rw [skn]
    split
    · omega
    · omega
theorem sk_ge (f : Nat → Int32) (L p : Nat) : p ≤ sk f L p := (skn_le f _ _).1
theorem sk_le {f : Nat → Int32} {L p N : Nat} (h : p ≤ N) (hL : L ≤ N) : sk f L p ≤ N := by
  have h1 := (skn_le f (L - p) p).2
  unfold sk
  omega
set_option maxRecDepth 100000 in
set_option maxHeartbeats 4000000 in
theorem l_X5_atEnd {κ : KX} {M : MM} {Q : Option Value → va_W → Prop} {L : Nat} (hL : M.1 106 1 = nI L) (h60 : L ≤ 60) : ∀ n p, p ≤ 1000 → L - p = n → Q (some (.int (if L ≤ skn (M.1 107) n p then 1 else 0))) (wM κ (sAt M (skn (M.1 107) n p))) → WP κ (0, 0, 0) mX5_atEnd 0 [some (rv κ 106)] [] (wM κ (sAt M p)) (0, 0) Q := by
  intro n
  induction n with
  | zero =>
    intro p hp0 hn hQ
    refine wp_rload_0 dX5_atEnd_0 ?_
    refine wp_getI fX5_35 dX5_atEnd_1 kd_106 rfl ?_
    rw [show (sAt M p).1 106 7 = nI p from sI_same _ _ _ _]
    refine wp_rload_0 dX5_atEnd_4 ?_
    refine wp_getI fX5_15 dX5_atEnd_5 kd_106 rfl ?_
    rw [show (sAt M p).1 106 1 = nI L from hL]
    refine wp_icmp_ge (tgt := 38) dX5_atEnd_8 rfl (fun c8 => ?_) (fun c8 => absurd (nI_le (by omega) (by omega)) c8)
    refine wp_rload_0 dX5_atEnd_38 ?_
    refine wp_getI fX5_35 dX5_atEnd_39 kd_106 rfl ?_
    rw [show (sAt M p).1 106 7 = nI p from sI_same _ _ _ _]
    refine wp_rload_0 dX5_atEnd_42 ?_
    refine wp_getI fX5_15 dX5_atEnd_43 kd_106 rfl ?_
    rw [show (sAt M p).1 106 1 = nI L from hL]
    refine wp_icmp_lt (tgt := 53) dX5_atEnd_46 rfl (fun c46 => absurd c46 (nI_nlt (by omega) (by omega))) (fun c46 => ?_)
    refine wp_iconst (v := 1) dX5_atEnd_49 rfl ?_
    refine wp_goto (tgt := 54) dX5_atEnd_50 rfl ?_
    refine wp_zret dX5_atEnd_54 rfl rfl rfl ?_
    exact Qe hQ (by rw [skn, if_pos (by omega)]) rfl
  | succ n ih =>
    intro p hp0 hn hQ
    refine wp_rload_0 dX5_atEnd_0 ?_
    refine wp_getI fX5_35 dX5_atEnd_1 kd_106 rfl ?_
    rw [show (sAt M p).1 106 7 = nI p from sI_same _ _ _ _]
    refine wp_rload_0 dX5_atEnd_4 ?_
    refine wp_getI fX5_15 dX5_atEnd_5 kd_106 rfl ?_
    rw [show (sAt M p).1 106 1 = nI L from hL]
    refine wp_icmp_ge (tgt := 38) dX5_atEnd_8 rfl (fun c8 => absurd c8 (nI_ge (by omega) (by omega))) (fun c8 => ?_)
    refine wp_rload_0 dX5_atEnd_11 ?_
    refine wp_getR (t := 107) fX5_9 dX5_atEnd_12 kd_106 rfl (rf_106_0) ?_
    refine wp_rload_0 dX5_atEnd_15 ?_
    refine wp_getI fX5_35 dX5_atEnd_16 kd_106 rfl ?_
    rw [show (sAt M p).1 106 7 = nI p from sI_same _ _ _ _]
    refine wp_cald (j := p) dX5_atEnd_19 kd_107 (rfl) (by rw [ln_107]; omega) ?_
    refine wp_bipush (v := 32) dX5_atEnd_20 rfl ?_
    refine wp_icmp_ne (tgt := 38) dX5_atEnd_22 rfl (fun c22 => ?_) (fun c22 => ?_)
    · refine wp_rload_0 dX5_atEnd_38 ?_
      refine wp_getI fX5_35 dX5_atEnd_39 kd_106 rfl ?_
      rw [show (sAt M p).1 106 7 = nI p from sI_same _ _ _ _]
      refine wp_rload_0 dX5_atEnd_42 ?_
      refine wp_getI fX5_15 dX5_atEnd_43 kd_106 rfl ?_
      rw [show (sAt M p).1 106 1 = nI L from hL]
      refine wp_icmp_lt (tgt := 53) dX5_atEnd_46 rfl (fun c46 => ?_) (fun c46 => absurd (nI_lt (by omega) (by omega)) c46)
      refine wp_iconst (v := 0) dX5_atEnd_53 rfl ?_
      refine wp_zret dX5_atEnd_54 rfl rfl rfl ?_
      have e : skn (M.1 107) (n + 1) p = p := if_neg c22
      rw [e] at hQ
      exact Qe hQ (by rw [if_neg (by omega)]) rfl
    · refine wp_rload_0 dX5_atEnd_25 ?_
      refine wp_dup_rv dX5_atEnd_26 ?_
      refine wp_getI fX5_35 dX5_atEnd_27 kd_106 rfl ?_
      rw [show (sAt M p).1 106 7 = nI p from sI_same _ _ _ _]
      refine wp_iconst (v := 1) dX5_atEnd_30 rfl ?_
      refine wp_iadd dX5_atEnd_31 ?_
      refine wp_putI fX5_35 dX5_atEnd_32 kd_106 rfl rfl ?_
      refine wp_goto (tgt := 0) dX5_atEnd_35 rfl ?_
      rw [sAt_up]
      have e : skn (M.1 107) (n + 1) p = skn (M.1 107) n (p + 1) := if_pos c22
      rw [e] at hQ
      exact ih (p + 1) (by omega) (by omega) hQ
set_option maxRecDepth 100000 in
set_option maxHeartbeats 4000000 in
theorem c_X5_atEnd {κ : KX} {M : MM} {Q : Option Value → va_W → Prop} {L p : Nat} (hL : M.1 106 1 = nI L) (hp : M.1 106 7 = nI p) (h60 : L ≤ 60) (hp0 : p ≤ 1000) (hQ : Q (some (.int (if L ≤ sk (M.1 107) L p then 1 else 0))) (wM κ (sAt M (sk (M.1 107) L p)))) : CT κ (0, 0, 0) mX5_atEnd [rv κ 106] (wM κ M) Q := by
  refine CT.of okX5_atEnd [some (rv κ 106)] (Nat.le_of_ble_eq_true rfl) rfl ?_
  rw [show wM κ M = wM κ (sAt M p) by rw [sAt, sI_id hp]]
  exact l_X5_atEnd hL h60 _ p hp0 rfl hQ
def dgb (f : Nat → Int32) (L p : Nat) : Bool := decide (p < L) && (decide (48 ≤ f p) && decide (f p ≤ 57))
theorem dgb_n1 {f : Nat → Int32} {L p : Nat} (h : f p < 48) : ¬ dgb f L p = true := by
  simp [dgb]
  intro _ hh
  exact absurd hh (Int32.not_le.mpr h)
theorem dgb_n2 {f : Nat → Int32} {L p : Nat} (h : 57 < f p) : ¬ dgb f L p = true := by
  simp [dgb]
  intro _ _
  exact h
theorem dgb_n3 {f : Nat → Int32} {L p : Nat} (h : L ≤ p) : ¬ dgb f L p = true := by
  simp [dgb]
  omega
theorem dgb_y {f : Nat → Int32} {L p : Nat} (h : p < L) (h1 : ¬ f p < 48) (h2 : ¬ 57 < f p) : dgb f L p = true := by
  simp [dgb, h, Int32.not_lt.mp h1, Int32.not_lt.mp h2]
set_option maxRecDepth 100000 in
set_option maxHeartbeats 4000000 in
theorem c_X5_isDigit {κ : KX} {M : MM} {Q : Option Value → va_W → Prop} {L p : Nat} (hL : M.1 106 1 = nI L) (hp : M.1 106 7 = nI p) (h60 : L ≤ 60) (hp0 : p ≤ 1000) (hQ : Q (some (.int (if dgb (M.1 107) L p = true then 1 else 0))) (wM κ M)) : CT κ (0, 0, 0) mX5_isDigit [rv κ 106] (wM κ M) Q := by
  refine CT.of okX5_isDigit [some (rv κ 106)] (Nat.le_of_ble_eq_true rfl) rfl ?_
  rcases Nat.lt_or_ge p L with hpl | hpl
  · refine wp_rload_0 dX5_isDigit_0 ?_
    refine wp_getI fX5_35 dX5_isDigit_1 kd_106 rfl ?_
    rw [hp]
    refine wp_rload_0 dX5_isDigit_4 ?_
    refine wp_getI fX5_15 dX5_isDigit_5 kd_106 rfl ?_
    rw [hL]
    refine wp_icmp_ge (tgt := 43) dX5_isDigit_8 rfl (fun c8 => absurd c8 (nI_ge (by omega) (by omega))) (fun c8 => ?_)
    refine wp_rload_0 dX5_isDigit_11 ?_
    refine wp_getR (t := 107) fX5_9 dX5_isDigit_12 kd_106 rfl (rf_106_0) ?_
    refine wp_rload_0 dX5_isDigit_15 ?_
    refine wp_getI fX5_35 dX5_isDigit_16 kd_106 rfl ?_
    rw [hp]
    refine wp_cald (j := p) dX5_isDigit_19 kd_107 (rfl) (by rw [ln_107]; omega) ?_
    refine wp_bipush (v := 48) dX5_isDigit_20 rfl ?_
    refine wp_icmp_lt (tgt := 43) dX5_isDigit_22 rfl (fun c22 => ?_) (fun c22 => ?_)
    · refine wp_iconst (v := 0) dX5_isDigit_43 rfl ?_
      refine wp_zret dX5_isDigit_44 rfl rfl rfl ?_
      refine Qe hQ ?_ rfl
      first
        | (rw [if_neg (dgb_n1 c22)]; done)
        | (rw [if_neg (dgb_n2 c36)]; done)
        | (rw [if_pos (dgb_y hpl c22 c36)]; done)
    · refine wp_rload_0 dX5_isDigit_25 ?_
      refine wp_getR (t := 107) fX5_9 dX5_isDigit_26 kd_106 rfl (rf_106_0) ?_
      refine wp_rload_0 dX5_isDigit_29 ?_
      refine wp_getI fX5_35 dX5_isDigit_30 kd_106 rfl ?_
      rw [hp]
      refine wp_cald (j := p) dX5_isDigit_33 kd_107 (rfl) (by rw [ln_107]; omega) ?_
      refine wp_bipush (v := 57) dX5_isDigit_34 rfl ?_
      refine wp_icmp_gt (tgt := 43) dX5_isDigit_36 rfl (fun c36 => ?_) (fun c36 => ?_)
      · refine wp_iconst (v := 0) dX5_isDigit_43 rfl ?_
        refine wp_zret dX5_isDigit_44 rfl rfl rfl ?_
        refine Qe hQ ?_ rfl
        first
          | (rw [if_neg (dgb_n1 c22)]; done)
          | (rw [if_neg (dgb_n2 c36)]; done)
          | (rw [if_pos (dgb_y hpl c22 c36)]; done)
      · refine wp_iconst (v := 1) dX5_isDigit_39 rfl ?_
        refine wp_goto (tgt := 44) dX5_isDigit_40 rfl ?_
        refine wp_zret dX5_isDigit_44 rfl rfl rfl ?_
        refine Qe hQ ?_ rfl
        first
          | (rw [if_neg (dgb_n1 c22)]; done)
          | (rw [if_neg (dgb_n2 c36)]; done)
          | (rw [if_pos (dgb_y hpl c22 c36)]; done)
  · refine wp_rload_0 dX5_isDigit_0 ?_
    refine wp_getI fX5_35 dX5_isDigit_1 kd_106 rfl ?_
    rw [hp]
    refine wp_rload_0 dX5_isDigit_4 ?_
    refine wp_getI fX5_15 dX5_isDigit_5 kd_106 rfl ?_
    rw [hL]
    refine wp_icmp_ge (tgt := 43) dX5_isDigit_8 rfl (fun c8 => ?_) (fun c8 => absurd (nI_le (by omega) (by omega)) c8)
    refine wp_iconst (v := 0) dX5_isDigit_43 rfl ?_
    refine wp_zret dX5_isDigit_44 rfl rfl rfl ?_
    exact Qe hQ (by rw [if_neg (dgb_n3 hpl)]) rfl
def rdp (f : Nat → Int32) (L p : Nat) : Nat := if dgb f L (sk f L p) = true then sk f L p + 1 else sk f L p
def rdv (f : Nat → Int32) (L p : Nat) : Int32 := if dgb f L (sk f L p) = true then f (sk f L p) - 48 else -1
theorem dgb_lt {f : Nat → Int32} {L p : Nat} (h : dgb f L p = true) : p < L := by
  simp [dgb] at h
  exact h.1
theorem dgb_val {f : Nat → Int32} {L p : Nat} (h : dgb f L p = true) : 0 ≤ (f p - 48).toInt ∧ (f p - 48).toInt ≤ 9 := by
  simp [dgb, i32_le] at h
  obtain ⟨-, h1, h2⟩ := h
  have e : (f p - 48).toInt = (f p).toInt - 48 := by
    rw [Int32.toInt_sub]
    have : (48 : Int32).toInt = 48 := rfl
    rw [this]
    apply Int.bmod_eq_of_le <;> omega
  omega
theorem rdp_le {f : Nat → Int32} {L p N : Nat} (h : p ≤ N) (hL : L ≤ N) : rdp f L p ≤ N := by
  unfold rdp
  split
  · have := dgb_lt ‹_›
    omega
  · exact sk_le h hL
set_option maxRecDepth 100000 in
set_option maxHeartbeats 4000000 in
theorem c_X5_readDigit {κ : KX} {M : MM} {Q : Option Value → va_W → Prop} {L p : Nat} (hL : M.1 106 1 = nI L) (hp : M.1 106 7 = nI p) (h60 : L ≤ 60) (hp0 : p ≤ 1000) (hQ : Q (some (.int (rdv (M.1 107) L p))) (wM κ (sAt M (rdp (M.1 107) L p)))) : CT κ (1, 0, 0) mX5_readDigit [rv κ 106] (wM κ M) Q := by
  refine CT.of okX5_readDigit [some (rv κ 106), none] (Nat.le_of_ble_eq_true rfl) rfl ?_
  refine wp_rload_0 dX5_readDigit_0 ?_
  refine wp_callV_0 kX5_49 dX5_readDigit_1 kd_106 rfl (c_X5_atEnd hL hp h60 hp0 ?_) ⟨Nat.le_of_ble_eq_true rfl, Nat.le_of_ble_eq_true rfl, Nat.le_of_ble_eq_true rfl⟩ (Nat.le_of_ble_eq_true rfl)
  have hs1 := sk_le (f := M.1 107) (p := p) (L := L) hp0 (by omega)
  refine wp_if_ne (tgt := 14) dX5_readDigit_4 rfl (fun c4 => ?_) (fun c4 => ?_)
  · refine wp_iconst (v := (-1)) dX5_readDigit_14 rfl ?_
    refine wp_iret dX5_readDigit_15 rfl rfl ?_
    first
      | (have e : ¬ dgb (M.1 107) L (sk (M.1 107) L p) = true := fun z => absurd (dgb_lt z) (Nat.not_lt.mpr (ite_ne c4))
         rw [rdv, rdp, if_neg e, if_neg e] at hQ
         exact hQ)
      | (have e : ¬ dgb (M.1 107) L (sk (M.1 107) L p) = true := ite_eq c11
         rw [rdv, rdp, if_neg e, if_neg e] at hQ
         exact hQ)
      | (have e : dgb (M.1 107) L (sk (M.1 107) L p) = true := ite_ne c11
         rw [rdv, rdp, if_pos e, if_pos e] at hQ
         rw [sAt_up]
         exact hQ)
  · refine wp_rload_0 dX5_readDigit_7 ?_
    refine wp_callV_0 kX5_55 dX5_readDigit_8 kd_106 rfl (c_X5_isDigit (L := L) (p := (sk (M.1 107) L p)) hL (sI_same _ _ _ _) h60 hs1 ?_) ⟨Nat.le_of_ble_eq_true rfl, Nat.le_of_ble_eq_true rfl, Nat.le_of_ble_eq_true rfl⟩ (Nat.le_of_ble_eq_true rfl)
    refine wp_if_ne (tgt := 16) dX5_readDigit_11 rfl (fun c11 => ?_) (fun c11 => ?_)
    · refine wp_rload_0 dX5_readDigit_16 ?_
      refine wp_getR (t := 107) fX5_9 dX5_readDigit_17 kd_106 rfl (rf_106_0) ?_
      refine wp_rload_0 dX5_readDigit_20 ?_
      refine wp_getI fX5_35 dX5_readDigit_21 kd_106 rfl ?_
      rw [show (sAt M (sk (M.1 107) L p)).1 106 7 = nI (sk (M.1 107) L p) from sI_same _ _ _ _]
      have hsl := dgb_lt (ite_ne c11)
      have hsl : (sk (M.1 107) L p) < L := hsl
      refine wp_cald (j := (sk (M.1 107) L p)) dX5_readDigit_24 kd_107 (rfl) (by rw [ln_107]; omega) ?_
      refine wp_bipush (v := 48) dX5_readDigit_25 rfl ?_
      refine wp_isub dX5_readDigit_27 ?_
      refine wp_istore_1 dX5_readDigit_28 (Nat.le_of_ble_eq_true rfl) rfl ?_
      refine wp_rload_0 dX5_readDigit_29 ?_
      refine wp_dup_rv dX5_readDigit_30 ?_
      refine wp_getI fX5_35 dX5_readDigit_31 kd_106 rfl ?_
      rw [show (sAt M (sk (M.1 107) L p)).1 106 7 = nI (sk (M.1 107) L p) from sI_same _ _ _ _]
      refine wp_iconst (v := 1) dX5_readDigit_34 rfl ?_
      refine wp_iadd dX5_readDigit_35 ?_
      refine wp_putI fX5_35 dX5_readDigit_36 kd_106 rfl rfl ?_
      refine wp_iload_1 dX5_readDigit_39 ?_
      refine wp_iret dX5_readDigit_40 rfl rfl ?_
      first
        | (have e : ¬ dgb (M.1 107) L (sk (M.1 107) L p) = true := fun z => absurd (dgb_lt z) (Nat.not_lt.mpr (ite_ne c4))
           rw [rdv, rdp, if_neg e, if_neg e] at hQ
           exact hQ)
        | (have e : ¬ dgb (M.1 107) L (sk (M.1 107) L p) = true := ite_eq c11
           rw [rdv, rdp, if_neg e, if_neg e] at hQ
           exact hQ)
        | (have e : dgb (M.1 107) L (sk (M.1 107) L p) = true := ite_ne c11
           rw [rdv, rdp, if_pos e, if_pos e] at hQ
           rw [sAt_up]
           exact hQ)
    · refine wp_iconst (v := (-1)) dX5_readDigit_14 rfl ?_
      refine wp_iret dX5_readDigit_15 rfl rfl ?_
      first
        | (have e : ¬ dgb (M.1 107) L (sk (M.1 107) L p) = true := fun z => absurd (dgb_lt z) (Nat.not_lt.mpr (ite_ne c4))
           rw [rdv, rdp, if_neg e, if_neg e] at hQ
           exact hQ)
        | (have e : ¬ dgb (M.1 107) L (sk (M.1 107) L p) = true := ite_eq c11
           rw [rdv, rdp, if_neg e, if_neg e] at hQ
           exact hQ)
        | (have e : dgb (M.1 107) L (sk (M.1 107) L p) = true := ite_ne c11
           rw [rdv, rdp, if_pos e, if_pos e] at hQ
           rw [sAt_up]
           exact hQ)
def sgp (f : Nat → Int32) (L : Nat) (ch : Int32) (p : Nat) : Nat := if sk f L p < L ∧ f (sk f L p) = ch then sk f L p + 1 else sk f L p
def sgv (f : Nat → Int32) (L : Nat) (ch : Int32) (p : Nat) : Int32 := if sk f L p < L ∧ f (sk f L p) = ch then 1 else 0
theorem sgp_le {f : Nat → Int32} {L p N : Nat} {ch : Int32} (h : p ≤ N) (hL : L ≤ N) : sgp f L ch p ≤ N := by
  unfold sgp
  split
  · omega
  · exact sk_le h hL
set_option maxRecDepth 100000 in
set_option maxHeartbeats 4000000 in
theorem c_X5_readSign {κ : KX} {M : MM} {Q : Option Value → va_W → Prop} {L p : Nat} {ch : Int32} (hL : M.1 106 1 = nI L) (hp : M.1 106 7 = nI p) (h60 : L ≤ 60) (hp0 : p ≤ 1000) (hQ : Q (some (.int (sgv (M.1 107) L ch p))) (wM κ (sAt M (sgp (M.1 107) L ch p)))) : CT κ (1, 0, 0) mX5_readSign [rv κ 106, .int ch] (wM κ M) Q := by
  refine CT.of okX5_readSign [some (rv κ 106), some (.int ch)] (Nat.le_of_ble_eq_true rfl) rfl ?_
  refine wp_rload_0 dX5_readSign_0 ?_
  refine wp_callV_0 kX5_49 dX5_readSign_1 kd_106 rfl (c_X5_atEnd hL hp h60 hp0 ?_) ⟨Nat.le_of_ble_eq_true rfl, Nat.le_of_ble_eq_true rfl, Nat.le_of_ble_eq_true rfl⟩ (Nat.le_of_ble_eq_true rfl)
  refine wp_if_ne (tgt := 20) dX5_readSign_4 rfl (fun c4 => ?_) (fun c4 => ?_)
  · refine wp_iconst (v := 0) dX5_readSign_20 rfl ?_
    refine wp_zret dX5_readSign_21 rfl rfl rfl ?_
    first
      | (have e : ¬ ((sk (M.1 107) L p) < L ∧ M.1 107 (sk (M.1 107) L p) = ch) := fun z => absurd z.1 (Nat.not_lt.mpr (ite_ne c4))
         rw [sgv, sgp, if_neg e, if_neg e] at hQ
         exact hQ)
      | (have e : ¬ ((sk (M.1 107) L p) < L ∧ M.1 107 (sk (M.1 107) L p) = ch) := fun z => c17 z.2
         rw [sgv, sgp, if_neg e, if_neg e] at hQ
         exact hQ)
      | (rw [sgv, sgp, if_pos ⟨hsl, c17⟩, if_pos ⟨hsl, c17⟩] at hQ
         rw [sAt_up]
         exact hQ)
  · refine wp_rload_0 dX5_readSign_7 ?_
    refine wp_getR (t := 107) fX5_9 dX5_readSign_8 kd_106 rfl (rf_106_0) ?_
    refine wp_rload_0 dX5_readSign_11 ?_
    refine wp_getI fX5_35 dX5_readSign_12 kd_106 rfl ?_
    rw [show (sAt M (sk (M.1 107) L p)).1 106 7 = nI (sk (M.1 107) L p) from sI_same _ _ _ _]
    have hsl : (sk (M.1 107) L p) < L := Nat.not_le.mp (ite_eq c4)
    refine wp_cald (j := (sk (M.1 107) L p)) dX5_readSign_15 kd_107 (rfl) (by rw [ln_107]; omega) ?_
    refine wp_iload_1 dX5_readSign_16 ?_
    refine wp_icmp_eq (tgt := 22) dX5_readSign_17 rfl (fun c17 => ?_) (fun c17 => ?_)
    · refine wp_rload_0 dX5_readSign_22 ?_
      refine wp_dup_rv dX5_readSign_23 ?_
      refine wp_getI fX5_35 dX5_readSign_24 kd_106 rfl ?_
      rw [show (sAt M (sk (M.1 107) L p)).1 106 7 = nI (sk (M.1 107) L p) from sI_same _ _ _ _]
      refine wp_iconst (v := 1) dX5_readSign_27 rfl ?_
      refine wp_iadd dX5_readSign_28 ?_
      refine wp_putI fX5_35 dX5_readSign_29 kd_106 rfl rfl ?_
      refine wp_iconst (v := 1) dX5_readSign_32 rfl ?_
      refine wp_zret dX5_readSign_33 rfl rfl rfl ?_
      first
        | (have e : ¬ ((sk (M.1 107) L p) < L ∧ M.1 107 (sk (M.1 107) L p) = ch) := fun z => absurd z.1 (Nat.not_lt.mpr (ite_ne c4))
           rw [sgv, sgp, if_neg e, if_neg e] at hQ
           exact hQ)
        | (have e : ¬ ((sk (M.1 107) L p) < L ∧ M.1 107 (sk (M.1 107) L p) = ch) := fun z => c17 z.2
           rw [sgv, sgp, if_neg e, if_neg e] at hQ
           exact hQ)
        | (rw [sgv, sgp, if_pos ⟨hsl, c17⟩, if_pos ⟨hsl, c17⟩] at hQ
           rw [sAt_up]
           exact hQ)
    · refine wp_iconst (v := 0) dX5_readSign_20 rfl ?_
      refine wp_zret dX5_readSign_21 rfl rfl rfl ?_
      first
        | (have e : ¬ ((sk (M.1 107) L p) < L ∧ M.1 107 (sk (M.1 107) L p) = ch) := fun z => absurd z.1 (Nat.not_lt.mpr (ite_ne c4))
           rw [sgv, sgp, if_neg e, if_neg e] at hQ
           exact hQ)
        | (have e : ¬ ((sk (M.1 107) L p) < L ∧ M.1 107 (sk (M.1 107) L p) = ch) := fun z => c17 z.2
           rw [sgv, sgp, if_neg e, if_neg e] at hQ
           exact hQ)
        | (rw [sgv, sgp, if_pos ⟨hsl, c17⟩, if_pos ⟨hsl, c17⟩] at hQ
           rw [sAt_up]
           exact hQ)
def yrp (f : Nat → Int32) (L p : Nat) : Nat := if dgb f L (rdp f L p) = true then rdp f L p + 1 else rdp f L p
def yrv (f : Nat → Int32) (L p : Nat) : Int32 := if dgb f L (rdp f L p) = true then 10 * rdv f L p + f (rdp f L p) - 48 else rdv f L p
def yrM (M : MM) (L p : Nat) : MM × Int32 := if rdv (M.1 107) L p < 0 then (sAt M (rdp (M.1 107) L p), 0) else if wi (yrv (M.1 107) L p) 2 52 = 0 then (sAt M (rdp (M.1 107) L p - 1), 0) else (sI (sAt M (yrp (M.1 107) L p)) 106 6 (yrv (M.1 107) L p), 1)
theorem rdv_pos {f : Nat → Int32} {L p : Nat} (h : ¬ rdv f L p < 0) : dgb f L (sk f L p) = true ∧ rdp f L p = sk f L p + 1 := by
  by_cases e : dgb f L (sk f L p) = true
  · exact ⟨e, by rw [rdp, if_pos e]⟩
  · exact absurd (by rw [rdv, if_neg e]; decide) h
set_option maxRecDepth 100000 in
set_option maxHeartbeats 4000000 in
theorem c_X5_readYear {κ : KX} {M : MM} {Q : Option Value → va_W → Prop} {L p : Nat} (hL : M.1 106 1 = nI L) (hp : M.1 106 7 = nI p) (h60 : L ≤ 60) (hp0 : p ≤ 1000) (hQ : Q (some (.int (yrM M L p).2)) (wM κ ((yrM M L p).1))) : CT κ (2, 0, 0) mX5_readYear [rv κ 106] (wM κ M) Q := by
  refine CT.of okX5_readYear [some (rv κ 106), none, none] (Nat.le_of_ble_eq_true rfl) rfl ?_
  refine wp_rload_0 dX5_readYear_0 ?_
  refine wp_callV_0 kX5_58 dX5_readYear_1 kd_106 rfl (c_X5_readDigit hL hp h60 hp0 ?_) ⟨Nat.le_of_ble_eq_true rfl, Nat.le_of_ble_eq_true rfl, Nat.le_of_ble_eq_true rfl⟩ (Nat.le_of_ble_eq_true rfl)
  have hr1 := rdp_le (f := M.1 107) (p := p) (L := L) hp0 (by omega)
  refine wp_istore_1 dX5_readYear_4 (Nat.le_of_ble_eq_true rfl) rfl ?_
  refine wp_iload_1 dX5_readYear_5 ?_
  refine wp_if_ge (tgt := 11) dX5_readYear_6 rfl (fun c6 => ?_) (fun c6 => ?_)
  · refine wp_rload_0 dX5_readYear_11 ?_
    refine wp_getI fX5_35 dX5_readYear_12 kd_106 rfl ?_
    rw [show (sAt M (rdp (M.1 107) L p)).1 106 7 = nI (rdp (M.1 107) L p) from sI_same _ _ _ _]
    refine wp_iconst (v := 1) dX5_readYear_15 rfl ?_
    refine wp_isub dX5_readYear_16 ?_
    have hneg : ¬ rdv (M.1 107) L p < 0 := Int32.not_lt.mpr c6
    have hpos : 1 ≤ (rdp (M.1 107) L p) := by rw [(rdv_pos hneg).2]; omega
    rw [nI_sub1 hpos]
    refine wp_istore_2 dX5_readYear_17 (Nat.le_of_ble_eq_true rfl) rfl ?_
    refine wp_rload_0 dX5_readYear_18 ?_
    refine wp_callV_0 kX5_55 dX5_readYear_19 kd_106 rfl (c_X5_isDigit (L := L) (p := (rdp (M.1 107) L p)) hL (sI_same _ _ _ _) h60 hr1 ?_) ⟨Nat.le_of_ble_eq_true rfl, Nat.le_of_ble_eq_true rfl, Nat.le_of_ble_eq_true rfl⟩ (Nat.le_of_ble_eq_true rfl)
    refine wp_if_eq (tgt := 53) dX5_readYear_22 rfl (fun c22 => ?_) (fun c22 => ?_)
    · refine wp_iload_1 dX5_readYear_53 ?_
      refine wp_iconst (v := 2) dX5_readYear_54 rfl ?_
      refine wp_bipush (v := 52) dX5_readYear_55 rfl ?_
      refine wp_callSN_3 kX5_62 dX5_readYear_57 (c_X6_within ?_) ⟨Nat.le_of_ble_eq_true rfl, Nat.le_of_ble_eq_true rfl, Nat.le_of_ble_eq_true rfl⟩ (Nat.le_of_ble_eq_true rfl)
      refine wp_if_ne (tgt := 70) dX5_readYear_60 rfl (fun c60 => ?_) (fun c60 => ?_)
      · refine wp_rload_0 dX5_readYear_70 ?_
        refine wp_iload_1 dX5_readYear_71 ?_
        refine wp_putI fX5_32 dX5_readYear_72 kd_106 rfl rfl ?_
        refine wp_iconst (v := 1) dX5_readYear_75 rfl ?_
        refine wp_zret dX5_readYear_76 rfl rfl rfl ?_
        first
          | (have e : ¬ dgb (M.1 107) L (rdp (M.1 107) L p) = true := ite_eq c22
             have c61 : ¬ wi (rdv (M.1 107) L p) 2 52 = 0 := c60
             rw [yrM, if_neg hneg, yrv, yrp, if_neg e, if_neg e, if_neg c61] at hQ
             exact hQ)
          | (have e : dgb (M.1 107) L (rdp (M.1 107) L p) = true := ite_ne c22
             have c61 : ¬ wi (10 * rdv (M.1 107) L p + M.1 107 (rdp (M.1 107) L p) - 48) 2 52 = 0 := c60
             rw [yrM, if_neg hneg, yrv, yrp, if_pos e, if_pos e, if_neg c61] at hQ
             rw [sAt_up]
             exact hQ)
      · refine wp_rload_0 dX5_readYear_63 ?_
        refine wp_iload_2 dX5_readYear_64 ?_
        refine wp_putI fX5_35 dX5_readYear_65 kd_106 rfl rfl ?_
        refine wp_iconst (v := 0) dX5_readYear_68 rfl ?_
        refine wp_zret dX5_readYear_69 rfl rfl rfl ?_
        first
          | (have e : ¬ dgb (M.1 107) L (rdp (M.1 107) L p) = true := ite_eq c22
             have c61 : wi (rdv (M.1 107) L p) 2 52 = 0 := c60
             rw [yrM, if_neg hneg, yrv, if_neg e, if_pos c61] at hQ
             refine Qv hQ ?_
             exact congrArg (wM κ) (sAt_sAt M _ _))
          | (have e : dgb (M.1 107) L (rdp (M.1 107) L p) = true := ite_ne c22
             have c61 : wi (10 * rdv (M.1 107) L p + M.1 107 (rdp (M.1 107) L p) - 48) 2 52 = 0 := c60
             rw [yrM, if_neg hneg, yrv, if_pos e, if_pos c61] at hQ
             rw [sAt_up]
             refine Qv hQ ?_
             exact congrArg (wM κ) (sAt_sAt M _ _))
    · refine wp_bipush (v := 10) dX5_readYear_25 rfl ?_
      refine wp_iload_1 dX5_readYear_27 ?_
      refine wp_imul dX5_readYear_28 ?_
      refine wp_rload_0 dX5_readYear_29 ?_
      refine wp_getR (t := 107) fX5_9 dX5_readYear_30 kd_106 rfl (rf_106_0) ?_
      refine wp_rload_0 dX5_readYear_33 ?_
      refine wp_getI fX5_35 dX5_readYear_34 kd_106 rfl ?_
      rw [show (sAt M (rdp (M.1 107) L p)).1 106 7 = nI (rdp (M.1 107) L p) from sI_same _ _ _ _]
      have hsl : (rdp (M.1 107) L p) < L := dgb_lt (ite_ne c22)
      refine wp_cald (j := (rdp (M.1 107) L p)) dX5_readYear_37 kd_107 (rfl) (by rw [ln_107]; omega) ?_
      refine wp_iadd dX5_readYear_38 ?_
      refine wp_bipush (v := 48) dX5_readYear_39 rfl ?_
      refine wp_isub dX5_readYear_41 ?_
      refine wp_istore_1 dX5_readYear_42 (Nat.le_of_ble_eq_true rfl) rfl ?_
      refine wp_rload_0 dX5_readYear_43 ?_
      refine wp_dup_rv dX5_readYear_44 ?_
      refine wp_getI fX5_35 dX5_readYear_45 kd_106 rfl ?_
      rw [show (sAt M (rdp (M.1 107) L p)).1 106 7 = nI (rdp (M.1 107) L p) from sI_same _ _ _ _]
      refine wp_iconst (v := 1) dX5_readYear_48 rfl ?_
      refine wp_iadd dX5_readYear_49 ?_
      refine wp_putI fX5_35 dX5_readYear_50 kd_106 rfl rfl ?_
      refine wp_iload_1 dX5_readYear_53 ?_
      refine wp_iconst (v := 2) dX5_readYear_54 rfl ?_
      refine wp_bipush (v := 52) dX5_readYear_55 rfl ?_
      refine wp_callSN_3 kX5_62 dX5_readYear_57 (c_X6_within ?_) ⟨Nat.le_of_ble_eq_true rfl, Nat.le_of_ble_eq_true rfl, Nat.le_of_ble_eq_true rfl⟩ (Nat.le_of_ble_eq_true rfl)
      refine wp_if_ne (tgt := 70) dX5_readYear_60 rfl (fun c60 => ?_) (fun c60 => ?_)
      · refine wp_rload_0 dX5_readYear_70 ?_
        refine wp_iload_1 dX5_readYear_71 ?_
        refine wp_putI fX5_32 dX5_readYear_72 kd_106 rfl rfl ?_
        refine wp_iconst (v := 1) dX5_readYear_75 rfl ?_
        refine wp_zret dX5_readYear_76 rfl rfl rfl ?_
        first
          | (have e : ¬ dgb (M.1 107) L (rdp (M.1 107) L p) = true := ite_eq c22
             have c61 : ¬ wi (rdv (M.1 107) L p) 2 52 = 0 := c60
             rw [yrM, if_neg hneg, yrv, yrp, if_neg e, if_neg e, if_neg c61] at hQ
             exact hQ)
          | (have e : dgb (M.1 107) L (rdp (M.1 107) L p) = true := ite_ne c22
             have c61 : ¬ wi (10 * rdv (M.1 107) L p + M.1 107 (rdp (M.1 107) L p) - 48) 2 52 = 0 := c60
             rw [yrM, if_neg hneg, yrv, yrp, if_pos e, if_pos e, if_neg c61] at hQ
             rw [sAt_up]
             exact hQ)
      · refine wp_rload_0 dX5_readYear_63 ?_
        refine wp_iload_2 dX5_readYear_64 ?_
        refine wp_putI fX5_35 dX5_readYear_65 kd_106 rfl rfl ?_
        refine wp_iconst (v := 0) dX5_readYear_68 rfl ?_
        refine wp_zret dX5_readYear_69 rfl rfl rfl ?_
        first
          | (have e : ¬ dgb (M.1 107) L (rdp (M.1 107) L p) = true := ite_eq c22
             have c61 : wi (rdv (M.1 107) L p) 2 52 = 0 := c60
             rw [yrM, if_neg hneg, yrv, if_neg e, if_pos c61] at hQ
             refine Qv hQ ?_
             exact congrArg (wM κ) (sAt_sAt M _ _))
          | (have e : dgb (M.1 107) L (rdp (M.1 107) L p) = true := ite_ne c22
             have c61 : wi (10 * rdv (M.1 107) L p + M.1 107 (rdp (M.1 107) L p) - 48) 2 52 = 0 := c60
             rw [yrM, if_neg hneg, yrv, if_pos e, if_pos c61] at hQ
             rw [sAt_up]
             refine Qv hQ ?_
             exact congrArg (wM κ) (sAt_sAt M _ _))
  · have hge := c6
    refine wp_iconst (v := 0) dX5_readYear_9 rfl ?_
    refine wp_zret dX5_readYear_10 rfl rfl rfl ?_
    rw [yrM, if_pos (Int32.not_le.mp c6)] at hQ
    exact hQ
def okq (f : Nat → Int32) (L p : Nat) : Int32 := if L ≤ sk f L p then -1 else sox (f (sk f L p))
def owM (M : MM) (L p g : Nat) : MM × Int32 := if okq (M.1 107) L p < 0 then (sAt M (sk (M.1 107) L p), 0) else if rdv (M.1 107) L (sk (M.1 107) L p + 1) < 0 then (sAt M (rdp (M.1 107) L (sk (M.1 107) L p + 1)), 0) else (sI (sI (sAt M (rdp (M.1 107) L (sk (M.1 107) L p + 1))) 108 g (okq (M.1 107) L p)) 109 g (rdv (M.1 107) L (sk (M.1 107) L p + 1)), 1)
set_option maxRecDepth 100000 in
set_option maxHeartbeats 4000000 in
theorem c_X5_readOwner {κ : KX} {M : MM} {Q : Option Value → va_W → Prop} {L p g : Nat} (hL : M.1 106 1 = nI L) (hp : M.1 106 7 = nI p) (h60 : L ≤ 60) (hp0 : p ≤ 900) (hg : M.1 106 5 = nI g) (hg6 : g < 6) (hQ : Q (some (.int (owM M L p g).2)) (wM κ ((owM M L p g).1))) : CT κ (4, 0, 0) mX5_readOwner [rv κ 106] (wM κ M) Q := by
  refine CT.of okX5_readOwner [some (rv κ 106), none, none] (Nat.le_of_ble_eq_true rfl) rfl ?_
  refine wp_rload_0 dX5_readOwner_0 ?_
  refine wp_callV_0 kX5_49 dX5_readOwner_1 kd_106 rfl (c_X5_atEnd hL hp h60 (by omega) ?_) ⟨Nat.le_of_ble_eq_true rfl, Nat.le_of_ble_eq_true rfl, Nat.le_of_ble_eq_true rfl⟩ (Nat.le_of_ble_eq_true rfl)
  have hs1 := sk_le (f := M.1 107) (p := p) (L := L) hp0 (by omega)
  refine wp_if_eq (tgt := 11) dX5_readOwner_4 rfl (fun c4 => ?_) (fun c4 => ?_)
  · refine wp_ldcS dX5_readOwner_11 ?_
    refine wp_rload_0 dX5_readOwner_13 ?_
    refine wp_getR (t := 107) fX5_9 dX5_readOwner_14 kd_106 rfl (rf_106_0) ?_
    refine wp_rload_0 dX5_readOwner_17 ?_
    refine wp_getI fX5_35 dX5_readOwner_18 kd_106 rfl ?_
    rw [show (sAt M (sk (M.1 107) L p)).1 106 7 = nI (sk (M.1 107) L p) from sI_same _ _ _ _]
    have hsl : (sk (M.1 107) L p) < L := Nat.not_le.mp (ite_eq c4)
    refine wp_cald (j := (sk (M.1 107) L p)) dX5_readOwner_21 kd_107 (rfl) (by rw [ln_107]; omega) ?_
    refine wp_callVS_1 kX5_68 dX5_readOwner_22 rfl (c_J0_indexOf_0f7a4 ?_) ⟨Nat.le_of_ble_eq_true rfl, Nat.le_of_ble_eq_true rfl, Nat.le_of_ble_eq_true rfl⟩ (Nat.le_of_ble_eq_true rfl)
    first
      | rw [show (-1 : Int32) = okq (M.1 107) L p from (if_pos (ite_ne c4)).symm]
      | rw [show sox ((sAt M (sk (M.1 107) L p)).1 107 (sk (M.1 107) L p)) = okq (M.1 107) L p from (if_neg (ite_eq c4)).symm]
    refine wp_istore_1 dX5_readOwner_25 (Nat.le_of_ble_eq_true rfl) rfl ?_
    refine wp_iload_1 dX5_readOwner_26 ?_
    refine wp_if_ge (tgt := 32) dX5_readOwner_27 rfl (fun c27 => ?_) (fun c27 => ?_)
    · refine wp_rload_0 dX5_readOwner_32 ?_
      refine wp_dup_rv dX5_readOwner_33 ?_
      refine wp_getI fX5_35 dX5_readOwner_34 kd_106 rfl ?_
      rw [show (sAt M (sk (M.1 107) L p)).1 106 7 = nI (sk (M.1 107) L p) from sI_same _ _ _ _]
      refine wp_iconst (v := 1) dX5_readOwner_37 rfl ?_
      refine wp_iadd dX5_readOwner_38 ?_
      refine wp_putI fX5_35 dX5_readOwner_39 kd_106 rfl rfl ?_
      refine wp_rload_0 dX5_readOwner_42 ?_
      rw [sAt_up]
      refine wp_callV_0 kX5_58 dX5_readOwner_43 kd_106 rfl (c_X5_readDigit (M := sAt M ((sk (M.1 107) L p) + 1)) (L := L) (p := (sk (M.1 107) L p) + 1) hL (sI_same _ _ _ _) h60 (by omega) ?_) ⟨Nat.le_of_ble_eq_true rfl, Nat.le_of_ble_eq_true rfl, Nat.le_of_ble_eq_true rfl⟩ (Nat.le_of_ble_eq_true rfl)
      rw [sAt_sAt]
      simp only [sAt_107]
      refine wp_istore_2 dX5_readOwner_46 (Nat.le_of_ble_eq_true rfl) rfl ?_
      refine wp_iload_2 dX5_readOwner_47 ?_
      refine wp_if_ge (tgt := 53) dX5_readOwner_48 rfl (fun c48 => ?_) (fun c48 => ?_)
      · refine wp_rload_0 dX5_readOwner_53 ?_
        refine wp_getR (t := 108) fX5_19 dX5_readOwner_54 kd_106 rfl (rf_106_2) ?_
        refine wp_rload_0 dX5_readOwner_57 ?_
        refine wp_getI fX5_29 dX5_readOwner_58 kd_106 rfl ?_
        rw [show (sAt M (rdp (M.1 107) L ((sk (M.1 107) L p) + 1))).1 106 5 = nI g from hg]
        refine wp_iload_1 dX5_readOwner_61 ?_
        refine wp_ast (j := g) dX5_readOwner_62 ar_108 (rfl) (by omega) ?_
        refine wp_rload_0 dX5_readOwner_63 ?_
        refine wp_getR (t := 109) fX5_23 dX5_readOwner_64 kd_106 rfl (rf_106_3) ?_
        refine wp_rload_0 dX5_readOwner_67 ?_
        refine wp_getI fX5_29 dX5_readOwner_68 kd_106 rfl ?_
        rw [show (sI (sAt M (rdp (M.1 107) L ((sk (M.1 107) L p) + 1))) 108 g (okq (M.1 107) L p)).1 106 5 = nI g from hg]
        refine wp_iload_2 dX5_readOwner_71 ?_
        refine wp_ast (j := g) dX5_readOwner_72 ar_109 (rfl) (by omega) ?_
        refine wp_iconst (v := 1) dX5_readOwner_73 rfl ?_
        refine wp_zret dX5_readOwner_74 rfl rfl rfl ?_
        rw [owM, if_neg (Int32.not_lt.mpr c27), if_neg (Int32.not_lt.mpr c48)] at hQ
        exact hQ
      · refine wp_iconst (v := 0) dX5_readOwner_51 rfl ?_
        refine wp_zret dX5_readOwner_52 rfl rfl rfl ?_
        rw [owM, if_neg (Int32.not_lt.mpr c27), if_pos (Int32.not_le.mp c48)] at hQ
        exact hQ
    · refine wp_iconst (v := 0) dX5_readOwner_30 rfl ?_
      refine wp_zret dX5_readOwner_31 rfl rfl rfl ?_
      rw [owM, if_pos (Int32.not_le.mp c27)] at hQ
      exact hQ
  · refine wp_iconst (v := (-1)) dX5_readOwner_7 rfl ?_
    refine wp_goto (tgt := 25) dX5_readOwner_8 rfl ?_
    first
      | rw [show (-1 : Int32) = okq (M.1 107) L p from (if_pos (ite_ne c4)).symm]
      | rw [show sox ((sAt M (sk (M.1 107) L p)).1 107 (sk (M.1 107) L p)) = okq (M.1 107) L p from (if_neg (ite_eq c4)).symm]
    refine wp_istore_1 dX5_readOwner_25 (Nat.le_of_ble_eq_true rfl) rfl ?_
    refine wp_iload_1 dX5_readOwner_26 ?_
    refine wp_if_ge (tgt := 32) dX5_readOwner_27 rfl (fun c27 => ?_) (fun c27 => ?_)
    · refine wp_rload_0 dX5_readOwner_32 ?_
      refine wp_dup_rv dX5_readOwner_33 ?_
      refine wp_getI fX5_35 dX5_readOwner_34 kd_106 rfl ?_
      rw [show (sAt M (sk (M.1 107) L p)).1 106 7 = nI (sk (M.1 107) L p) from sI_same _ _ _ _]
      refine wp_iconst (v := 1) dX5_readOwner_37 rfl ?_
      refine wp_iadd dX5_readOwner_38 ?_
      refine wp_putI fX5_35 dX5_readOwner_39 kd_106 rfl rfl ?_
      refine wp_rload_0 dX5_readOwner_42 ?_
      rw [sAt_up]
      refine wp_callV_0 kX5_58 dX5_readOwner_43 kd_106 rfl (c_X5_readDigit (M := sAt M ((sk (M.1 107) L p) + 1)) (L := L) (p := (sk (M.1 107) L p) + 1) hL (sI_same _ _ _ _) h60 (by omega) ?_) ⟨Nat.le_of_ble_eq_true rfl, Nat.le_of_ble_eq_true rfl, Nat.le_of_ble_eq_true rfl⟩ (Nat.le_of_ble_eq_true rfl)
      rw [sAt_sAt]
      simp only [sAt_107]
      refine wp_istore_2 dX5_readOwner_46 (Nat.le_of_ble_eq_true rfl) rfl ?_
      refine wp_iload_2 dX5_readOwner_47 ?_
      refine wp_if_ge (tgt := 53) dX5_readOwner_48 rfl (fun c48 => ?_) (fun c48 => ?_)
      · refine wp_rload_0 dX5_readOwner_53 ?_
        refine wp_getR (t := 108) fX5_19 dX5_readOwner_54 kd_106 rfl (rf_106_2) ?_
        refine wp_rload_0 dX5_readOwner_57 ?_
        refine wp_getI fX5_29 dX5_readOwner_58 kd_106 rfl ?_
        rw [show (sAt M (rdp (M.1 107) L ((sk (M.1 107) L p) + 1))).1 106 5 = nI g from hg]
        refine wp_iload_1 dX5_readOwner_61 ?_
        refine wp_ast (j := g) dX5_readOwner_62 ar_108 (rfl) (by omega) ?_
        refine wp_rload_0 dX5_readOwner_63 ?_
        refine wp_getR (t := 109) fX5_23 dX5_readOwner_64 kd_106 rfl (rf_106_3) ?_
        refine wp_rload_0 dX5_readOwner_67 ?_
        refine wp_getI fX5_29 dX5_readOwner_68 kd_106 rfl ?_
        rw [show (sI (sAt M (rdp (M.1 107) L ((sk (M.1 107) L p) + 1))) 108 g (okq (M.1 107) L p)).1 106 5 = nI g from hg]
        refine wp_iload_2 dX5_readOwner_71 ?_
        refine wp_ast (j := g) dX5_readOwner_72 ar_109 (rfl) (by omega) ?_
        refine wp_iconst (v := 1) dX5_readOwner_73 rfl ?_
        refine wp_zret dX5_readOwner_74 rfl rfl rfl ?_
        rw [owM, if_neg (Int32.not_lt.mpr c27), if_neg (Int32.not_lt.mpr c48)] at hQ
        exact hQ
      · refine wp_iconst (v := 0) dX5_readOwner_51 rfl ?_
        refine wp_zret dX5_readOwner_52 rfl rfl rfl ?_
        rw [owM, if_neg (Int32.not_lt.mpr c27), if_pos (Int32.not_le.mp c48)] at hQ
        exact hQ
    · refine wp_iconst (v := 0) dX5_readOwner_30 rfl ?_
      refine wp_zret dX5_readOwner_31 rfl rfl rfl ?_
      rw [owM, if_pos (Int32.not_le.mp c27)] at hQ
      exact hQ
def qrM (M : MM) (L p g : Nat) : MM × Int32 := if rdv (M.1 107) L p < 0 then (sAt M (rdp (M.1 107) L p), 0) else if rdv (M.1 107) L (rdp (M.1 107) L p) < 0 then (sAt M (rdp (M.1 107) L (rdp (M.1 107) L p)), 0) else (sI (sAt M (rdp (M.1 107) L (rdp (M.1 107) L p))) 110 (g - 1) (10 * rdv (M.1 107) L p + rdv (M.1 107) L (rdp (M.1 107) L p)), 1)
set_option maxRecDepth 100000 in
set_option maxHeartbeats 4000000 in
theorem c_X5_readQuarrel {κ : KX} {M : MM} {Q : Option Value → va_W → Prop} {L p g : Nat} (hL : M.1 106 1 = nI L) (hp : M.1 106 7 = nI p) (h60 : L ≤ 60) (hp0 : p ≤ 900) (hg : M.1 106 5 = nI g) (hg1 : 1 ≤ g) (hg6 : g < 6) (hQ : Q (some (.int (qrM M L p g).2)) (wM κ ((qrM M L p g).1))) : CT κ (2, 0, 0) mX5_readQuarrel [rv κ 106] (wM κ M) Q := by
  refine CT.of okX5_readQuarrel [some (rv κ 106), none, none] (Nat.le_of_ble_eq_true rfl) rfl ?_
  refine wp_rload_0 dX5_readQuarrel_0 ?_
  refine wp_callV_0 kX5_58 dX5_readQuarrel_1 kd_106 rfl (c_X5_readDigit hL hp h60 (by omega) ?_) ⟨Nat.le_of_ble_eq_true rfl, Nat.le_of_ble_eq_true rfl, Nat.le_of_ble_eq_true rfl⟩ (Nat.le_of_ble_eq_true rfl)
  have hr1 := rdp_le (f := M.1 107) (p := p) (L := L) hp0 (by omega)
  refine wp_istore_1 dX5_readQuarrel_4 (Nat.le_of_ble_eq_true rfl) rfl ?_
  refine wp_iload_1 dX5_readQuarrel_5 ?_
  refine wp_if_ge (tgt := 11) dX5_readQuarrel_6 rfl (fun c6 => ?_) (fun c6 => ?_)
  · refine wp_rload_0 dX5_readQuarrel_11 ?_
    refine wp_callV_0 kX5_58 dX5_readQuarrel_12 kd_106 rfl (c_X5_readDigit (M := sAt M (rdp (M.1 107) L p)) (L := L) (p := (rdp (M.1 107) L p)) hL (sI_same _ _ _ _) h60 (by omega) ?_) ⟨Nat.le_of_ble_eq_true rfl, Nat.le_of_ble_eq_true rfl, Nat.le_of_ble_eq_true rfl⟩ (Nat.le_of_ble_eq_true rfl)
    rw [sAt_sAt]
    simp only [sAt_107]
    refine wp_istore_2 dX5_readQuarrel_15 (Nat.le_of_ble_eq_true rfl) rfl ?_
    refine wp_iload_2 dX5_readQuarrel_16 ?_
    refine wp_if_ge (tgt := 22) dX5_readQuarrel_17 rfl (fun c17 => ?_) (fun c17 => ?_)
    · refine wp_rload_0 dX5_readQuarrel_22 ?_
      refine wp_getR (t := 110) fX5_26 dX5_readQuarrel_23 kd_106 rfl (rf_106_4) ?_
      refine wp_rload_0 dX5_readQuarrel_26 ?_
      refine wp_getI fX5_29 dX5_readQuarrel_27 kd_106 rfl ?_
      rw [show (sAt M (rdp (M.1 107) L (rdp (M.1 107) L p))).1 106 5 = nI g from hg]
      refine wp_iconst (v := 1) dX5_readQuarrel_30 rfl ?_
      refine wp_isub dX5_readQuarrel_31 ?_
      refine wp_bipush (v := 10) dX5_readQuarrel_32 rfl ?_
      refine wp_iload_1 dX5_readQuarrel_34 ?_
      refine wp_imul dX5_readQuarrel_35 ?_
      refine wp_iload_2 dX5_readQuarrel_36 ?_
      refine wp_iadd dX5_readQuarrel_37 ?_
      refine wp_ast (j := (g - 1)) dX5_readQuarrel_38 ar_110 (nI_sub1 hg1) (by omega) ?_
      refine wp_iconst (v := 1) dX5_readQuarrel_39 rfl ?_
      refine wp_zret dX5_readQuarrel_40 rfl rfl rfl ?_
      rw [qrM, if_neg (Int32.not_lt.mpr c6), if_neg (Int32.not_lt.mpr c17)] at hQ
      exact hQ
    · refine wp_iconst (v := 0) dX5_readQuarrel_20 rfl ?_
      refine wp_zret dX5_readQuarrel_21 rfl rfl rfl ?_
      rw [qrM, if_neg (Int32.not_lt.mpr c6), if_pos (Int32.not_le.mp c17)] at hQ
      exact hQ
  · refine wp_iconst (v := 0) dX5_readQuarrel_9 rfl ?_
    refine wp_zret dX5_readQuarrel_10 rfl rfl rfl ?_
    rw [qrM, if_pos (Int32.not_le.mp c6)] at hQ
    exact hQ
def wrt (M : MM) (n : Nat) (x : Int32) : MM := sI (sI M 107 n (vp_nar .char x)) 106 1 (nI n + 1)
set_option maxRecDepth 100000 in
set_option maxHeartbeats 4000000 in
theorem c_X5_write {κ : KX} {M : MM} {Q : Option Value → va_W → Prop} {n : Nat} {x : Int32} (hL : M.1 106 1 = nI n) (hn : n < 60) (hQ : Q (some (.int (nI n + 1))) (wM κ (wrt M n x))) : CT κ (0, 0, 0) mX5_write [rv κ 106, .int x] (wM κ M) Q := by
  refine CT.of okX5_write [some (rv κ 106), some (.int x)] (Nat.le_of_ble_eq_true rfl) rfl ?_
  refine wp_rload_0 dX5_write_0 ?_
  refine wp_getR (t := 107) fX5_9 dX5_write_1 kd_106 rfl (rf_106_0) ?_
  refine wp_rload_0 dX5_write_4 ?_
  refine wp_getI fX5_15 dX5_write_5 kd_106 rfl ?_
  rw [hL]
  refine wp_iload_1 dX5_write_8 ?_
  refine wp_cast (j := n) dX5_write_9 kd_107 (rfl) (by rw [ln_107]; omega) ?_
  refine wp_rload_0 dX5_write_10 ?_
  refine wp_dup_rv dX5_write_11 ?_
  refine wp_getI fX5_15 dX5_write_12 kd_106 rfl ?_
  rw [show (sI M 107 n (vp_nar .char x)).1 106 1 = nI n from hL]
  refine wp_iconst (v := 1) dX5_write_15 rfl ?_
  refine wp_iadd dX5_write_16 ?_
  refine wp_putI fX5_15 dX5_write_17 kd_106 rfl rfl ?_
  refine wp_rload_0 dX5_write_20 ?_
  refine wp_getI fX5_15 dX5_write_21 kd_106 rfl ?_
  refine wp_iret dX5_write_24 rfl rfl ?_
  exact Qe hQ (sI_same _ _ _ _) rfl
