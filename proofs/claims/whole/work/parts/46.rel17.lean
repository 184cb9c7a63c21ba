/-! sorries -/
theorem wA_o {M : MM} {a : Nat} (h1 : a ≠ 104) (h2 : a ≠ 105) : ∀ n, (wA M n).1 a = M.1 a
  | 0 => rfl
  | n + 1 => by rw [wA, sI_out h2, sI_out h1]; exact wA_o h1 h2 n
theorem wA_2 {M : MM} : ∀ n, (wA M n).2 = M.2
  | 0 => rfl
  | n + 1 => wA_2 n
theorem wA_at {M : MM} {j : Nat} : ∀ n, j < n → (wA M n).1 104 j = cnx M j (M.1 6 j) ∧ (wA M n).1 105 j = cnx M j (M.1 6 j - M.1 6 j / 3)
  | 0, h => absurd h (by omega)
  | n + 1, h => by
    have c0 : ∀ q, cnx (wA M n) n q = cnx M n q := fun q => cnx_cg (fun a ha => wA_o (by omega) (by omega) n)
    have c1 : ∀ v q, cnx (sI (wA M n) 104 n v) n q = cnx M n q := fun v q => cnx_cg (fun a ha => (sI_out (by omega)).trans (wA_o (by omega) (by omega) n))
    rw [wA, c1, c0, wA_o (a := 6) (by decide) (by decide) n]
    by_cases e : j = n
    · subst e
      rw [sI_out (by decide), sI_same, sI_same]
      exact ⟨rfl, rfl⟩
    · rw [sI_out (by decide), sI_oth e, sI_oth e, sI_out (by decide)]
      exact wA_at n (by omega)
theorem opn_cg {M M' : MM} (e7 : M'.1 7 = M.1 7) (e4 : M'.1 4 = M.1 4) : ∀ n, opn M' n = opn M n
  | 0 => rfl
  | n + 1 => by
    rw [opn, opn, opn_cg e7 e4 n, show wta M' n = wta M n by unfold wta; rw [e7, e4]]
theorem syA_hi (s : Nat) (h : Nat → Int32) {a : Nat} : ∀ j, 27 + j ≤ a → syA s h j a = h a
  | 0, _ => rfl
  | j + 1, ha => by
    rw [syA]
    split
    · exact syA_hi s h j (by omega)
    · rw [sy0, upd_o (by omega)]; exact syA_hi s h j (by omega)
theorem syA_at (s : Nat) (h : Nat → Int32) {w : Nat} : ∀ j, w < j → syA s h j (27 + w) = if (nI s >>> (nI w &&& 31)) &&& 1 = 1 then h (27 + w) - h (27 + w) / 3 else h (27 + w)
  | 0, hw => absurd hw (by omega)
  | j + 1, hw => by
    by_cases e : w = j
    · subst e
      by_cases q : (nI s >>> (nI w &&& 31)) &&& 1 = 1
      · have hb1 : hasB (nI s) (nI w) = 1 := if_neg (fun r => r q)
        have n01 : ¬ (1 : Int32) = 0 := by decide
        rw [syA, hb1, if_neg n01, if_pos q, sy0, pk_us, syA_hi s h w (by omega)]
      · have hb0 : hasB (nI s) (nI w) = 0 := if_pos q
        rw [syA, hb0, if_pos rfl, if_neg q, syA_hi s h w (by omega)]
    · rw [syA]
      split
      · exact syA_at s h j (by omega)
      · rw [sy0, upd_o (by omega)]
        exact syA_at s h j (by omega)
theorem sy_c {M : MM} {F k : Nat → Int32} {g y o u s : Nat} (h : SR M 1 F g y o u) : cw (wA M (g - 1)) (nI s) (g - 1) = smF (syK F g s k) 22 5 := by
  have h6 := h.1.1
  have hs := h.2.2.2.1
  unfold syK
  rw [sm_by h (fun i i1 i2 => by rw [syA_fr _ _ (by omega), lyF_in _ _ (by omega)])]
  refine cw_eq h (fun j hj => ?_) _ (by omega)
  obtain ⟨a4, a5⟩ := wA_at (M := M) (j := j) (g - 1) (by omega)
  rw [a4, a5]
  have hq := qbd hs (show j < 5 by omega)
  by_cases e : (nI s >>> (nI j &&& 31)) &&& 1 = 1
  · rw [if_pos e]
    refine (cn_eq h hj (fun a ha => by rw [syA_fr _ _ ha, lyF_in _ _ (by omega)]) ?_ ?_).symm
    · rw [syA_at s _ 5 (by omega), if_pos e, lyF_in _ _ (by omega), qu_eq hs hj]
    · rw [qu_eq hs hj]
      exact bd_third (by decide) hq
  · rw [if_neg e]
    refine (cn_eq h hj (fun a ha => by rw [syA_fr _ _ ha, lyF_in _ _ (by omega)]) ?_ ?_).symm
    · rw [syA_at s _ 5 (by omega), if_neg e, lyF_in _ _ (by omega), qu_eq hs hj]
    · rw [qu_eq hs hj]
      exact hq
theorem cw_nA {M : MM} {F : Nat → Int32} {g y o u : Nat} {s : Int32} (h : SR M 1 F g y o u) : ∀ n, n ≤ g - 1 → bd (cw (wA M (g - 1)) s n) (19 * n)
  | 0, _ => ⟨0, by omega, rfl⟩
  | n + 1, hn => by
    obtain ⟨a4, a5⟩ := wA_at (M := M) (j := n) (g - 1) (by omega)
    rw [cw, a4, a5]
    have q := cw_nA (s := s) h n (by omega)
    rw [show 19 * (n + 1) = 19 * n + 19 by omega]
    refine bd_add q ?_
    split
    · exact cnx_bd h
    · exact cnx_bd h
theorem bct_bt : ∀ s : Nat, s < 32 → bct (nI s) = bt s := by decide +kernel
theorem bA_eq {M : MM} {F k : Nat → Int32} {g y o u : Nat} {m : Int32} (h : SR M 1 F g y o u) (hm : 0 ≤ m) : ∀ n, n < 32 → (ssF F g m k (n + 1)).2.1 ≤ n ∧ bA (wA M (g - 1)) g (msF F (g - 1)) m n = (nI (ssF F g m k (n + 1)).2.1, (ssF F g m k (n + 1)).2.2) ∧ (ssF F g m k (n + 1)).2.2 = cw (wA M (g - 1)) (nI (ssF F g m k (n + 1)).2.1) (g - 1)
  | 0, _ => by
    have h6 := h.1.1
    have e := sy_c (s := 0) (k := k) h
    obtain ⟨c, hc, ec⟩ := cw_nA (s := nI 0) h (g - 1) (by omega)
    have z : nI 0 &&& (msF F (g - 1) ^^^ (-1)) = 0 := Int32.zero_and
    have l1 : ¬ m < bt 0 := by rw [show bt 0 = 0 from rfl]; exact Int32.not_lt.mpr hm
    have l2 : smF (syK F g 0 k) 22 5 < 1000000 := by
      rw [← e, ec]
      exact nI_lt (b := 1000000) (by omega) (by decide)
    have es : (ssF F g m k (0 + 1)).2 = (0, smF (syK F g 0 k) 22 5) := by
      have n0 : ¬ ¬ nI 0 &&& (msF F (g - 1) ^^^ (-1)) = 0 := fun r => r z
      have l3 : smF (syK F g 0 (ssF F g m k 0).1) 22 5 < (ssF F g m k 0).2.2 ∨ (smF (syK F g 0 (ssF F g m k 0).1) 22 5 = (ssF F g m k 0).2.2 ∧ bt 0 < bt (ssF F g m k 0).2.1) := Or.inl l2
      rw [ssF, if_neg n0, if_neg l1, if_pos l3]
      rfl
    rw [es]
    exact ⟨by omega, by rw [bA, ← e]; rfl, e.symm⟩
  | n + 1, hn => by
    obtain ⟨i1, i2, i3⟩ := bA_eq (k := k) h hm n (by omega)
    have e := sy_c (s := n + 1) (k := (ssF F g m k (n + 1)).1) h
    rw [bA, ssF, i2, bct_bt (n + 1) (by omega), e]
    dsimp only
    rw [bct_bt _ (show (ssF F g m k (n + 1)).2.1 < 32 by omega)]
    by_cases q1 : nI (n + 1) &&& (msF F (g - 1) ^^^ (-1)) = 0
    · have n1 : ¬ ¬ nI (n + 1) &&& (msF F (g - 1) ^^^ (-1)) = 0 := fun r => r q1
      rw [if_neg n1, if_neg n1]
      by_cases q2 : m < bt (n + 1)
      · rw [if_pos (Int32.not_le.mpr q2), if_pos q2]
        exact ⟨by omega, rfl, i3⟩
      · have n2 : ¬ ¬ bt (n + 1) ≤ m := fun r => r (Int32.not_lt.mp q2)
        rw [if_neg n2, if_neg q2]
        by_cases q3 : smF (syK F g (n + 1) (ssF F g m k (n + 1)).1) 22 5 < (ssF F g m k (n + 1)).2.2
        · rw [if_pos q3, if_pos (Or.inl q3)]
          exact ⟨by show n + 1 ≤ n + 1; omega, rfl, e.symm⟩
        · rw [if_neg q3]
          by_cases q4 : smF (syK F g (n + 1) (ssF F g m k (n + 1)).1) 22 5 = (ssF F g m k (n + 1)).2.2
          · have n4 : ¬ ¬ smF (syK F g (n + 1) (ssF F g m k (n + 1)).1) 22 5 = (ssF F g m k (n + 1)).2.2 := fun r => r q4
            rw [if_neg n4]
            by_cases q5 : bt (ssF F g m k (n + 1)).2.1 ≤ bt (n + 1)
            · rw [if_pos q5, if_neg (nb2 q3 q5)]
              exact ⟨by show (ssF F g m k (n + 1)).2.1 ≤ n + 1; omega, rfl, i3⟩
            · rw [if_neg q5, if_pos (Or.inr ⟨q4, Int32.not_le.mp q5⟩)]
              exact ⟨by show n + 1 ≤ n + 1; omega, rfl, e.symm⟩
          · rw [if_pos q4, if_neg (nb1 q3 q4)]
            exact ⟨by show (ssF F g m k (n + 1)).2.1 ≤ n + 1; omega, rfl, i3⟩
    · rw [if_pos q1, if_pos q1]
      exact ⟨by omega, rfl, i3⟩
theorem or_pow : ∀ n : Nat, n < 5 → ∀ p : Nat, p < 2 ^ n → nI p ||| ((1 : Int32) <<< (nI n &&& 31)) = nI (p + 2 ^ n) := by decide +kernel
theorem out_op : ∀ e : Nat, e < 6 → ∀ p : Nat, p < 2 ^ e → ∀ s : Nat, s < 32 → 2 ^ e ≤ s → ¬ nI s &&& (nI p ^^^ (-1)) = 0 := by decide +kernel
theorem ms_lt (F : Nat → Int32) : ∀ n, n ≤ 5 → ∃ p : Nat, p < 2 ^ n ∧ msF F n = nI p
  | 0, _ => ⟨0, by decide, rfl⟩
  | n + 1, hn => by
    obtain ⟨p, hp, e⟩ := ms_lt F n (by omega)
    have e2 : 2 ^ (n + 1) = 2 ^ n + 2 ^ n := by rw [Nat.pow_succ]; omega
    rw [msF, e]
    split
    · exact ⟨p, by omega, Int32.or_zero⟩
    · exact ⟨p + 2 ^ n, by omega, or_pow n (by omega) p hp⟩
theorem ss_end {F k : Nat → Int32} {g : Nat} {m : Int32} (h6 : g ≤ 6) : ∀ n, 2 ^ (g - 1) + n ≤ 32 → (ssF F g m k (2 ^ (g - 1) + n)).2 = (ssF F g m k (2 ^ (g - 1))).2
  | 0, _ => rfl
  | n + 1, hn => by
    obtain ⟨p, hp, e⟩ := ms_lt F (g - 1) (by omega)
    have q := out_op (g - 1) (by omega) p hp (2 ^ (g - 1) + n) (by omega) (by omega)
    rw [← e] at q
    show (ssF F g m k ((2 ^ (g - 1) + n) + 1)).2 = _
    rw [ssF, if_pos q]
    exact ss_end h6 n (by omega)
theorem sim_sorries {M : MM} {g y o u L : Nat} {m wh : Int32} {k : Nat → Int32} (h : Rel M g y o u L) : (sSs M g m wh).2 = (tSs (M.1 121) k g m wh).2 ∧ (sSs M g m wh).1.1 121 = M.1 121 ∧ REL (rI (sSs M g m wh).1 122 (tSs (M.1 121) k g m wh).1) := by
  have h6 := h.1.1.1
  unfold sSs tSs
  by_cases h1 : wi m 0 5 = 0
  · rw [if_pos h1, if_pos h1]
    exact ⟨rfl, rfl, rel_122 h⟩
  · rw [if_neg h1, if_neg h1]
    by_cases h2 : wi wh 0 1 = 0
    · rw [if_pos h2, if_pos h2]
      exact ⟨rfl, rfl, rel_122 h⟩
    · rw [if_neg h2, if_neg h2]
      refine ⟨?_, wA_o (by decide) (by decide) _, rel_ft h (fun a ha => by rw [rI_ne _ _ (by omega)]; exact wA_o (by omega) (by omega) _) (wA_2 _)⟩
      obtain ⟨mm, _, hm5, rfl⟩ := rng_of (a := 0) (b := 5) h1 (by decide) (by decide)
      have ho : opn (wA M (g - 1)) (g - 1) = msF (M.1 121) (g - 1) := by
        rw [opn_cg (M := M) (wA_o (by decide) (by decide) _) (wA_o (by decide) (by decide) _)]
        rcases Nat.eq_zero_or_pos g with e | e
        · subst e; rfl
        · exact opn_eq h.1.2.2.2.1 _ (by omega)
      have hp1 : 1 ≤ 2 ^ (g - 1) := Nat.one_le_two_pow
      have hp2 : 2 ^ (g - 1) ≤ 2 ^ 5 := Nat.pow_le_pow_right (by decide) (by omega)
      have hp3 : (2 : Nat) ^ 5 = 32 := rfl
      obtain ⟨i1, i2, i3⟩ := bA_eq (k := k) (m := nI mm) h.1 (nI_le (a := 0) (by omega) (by omega)) (2 ^ (g - 1) - 1) (by omega)
      have he := ss_end (F := M.1 121) (k := k) (g := g) (m := nI mm) h6 (32 - 2 ^ (g - 1)) (by omega)
      rw [show 2 ^ (g - 1) + (32 - 2 ^ (g - 1)) = 32 by omega] at he
      rw [show 2 ^ (g - 1) - 1 + 1 = 2 ^ (g - 1) by omega] at i2 i3
      dsimp only
      rw [ho, i2, he]
      dsimp only
      rw [← i3]
