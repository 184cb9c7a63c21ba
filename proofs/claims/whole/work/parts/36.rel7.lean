/-! undo, drift -/
theorem cpS_in2 (h : Nat → Int32) {a b i : Nat} : ∀ m, b + m ≤ a → i < m → cpS h a b m (b + i) = h (a + i)
  | 0, _, hi => absurd hi (by omega)
  | m + 1, hab, hi => by
    rw [cpS]
    by_cases e : i = m
    · subst e
      rw [pk_us, cpS_out h a b i (by omega)]
    · rw [upd_o (by omega)]
      exact cpS_in2 h m (by omega) (by omega)
theorem unF_st {F : Nat → Int32} {v j : Nat} (hj : j < 22) : unF F v (16 + j) = F (39 + 23 * v + j) := by
  rw [unF, upd_o (by omega), un1, cpS_in2 _ 22 (by omega) hj, upd_o (by omega)]
theorem unF_3 {F : Nat → Int32} {v : Nat} : unF F v 3 = F (39 + 23 * v + 22) := by
  rw [unF, pk_us, un1, cpS_out _ _ _ _ (by omega), upd_o (by omega)]
theorem unF_38 {F : Nat → Int32} {v : Nat} : unF F v 38 = nI v := by
  rw [unF, upd_o (by omega), un1, cpS_out _ _ _ _ (by omega), pk_us]
theorem unF_o {F : Nat → Int32} {v a : Nat} (h3 : a ≠ 3) (h : a < 16 ∨ 38 < a) : unF F v a = F a := by
  rw [unF, upd_o h3, un1, cpS_out _ _ _ _ (by omega), upd_o (by omega)]
theorem gvS_out {M : MM} {o v a : Nat} (h9 : a ≠ 9) (h : a < 4 ∨ 8 < a) : (gvS o v M).1 a = M.1 a := by
  rw [gvS, bec_out (by omega), sI_out h9]
theorem sr_un {M : MM} {F : Nat → Int32} {g y o u : Nat} (h : SR M 1 F g y o u) (hu0 : 1 ≤ u) : SR (gvS o (u - 1) M) 1 (unF F (u - 1)) g y o (u - 1) := by
  obtain ⟨⟨h6, y2, y52, o8, u8⟩, ⟨a1, a2, a3, a4, a5, a6⟩, hk, hs, ⟨p1, p2, p3⟩, hu⟩ := h
  have hr := stp_rg o (u - 1)
  refine ⟨⟨h6, y2, y52, o8, by omega⟩, ⟨?_, ?_, ?_, ?_, ?_, ?_⟩, fun i hi => ?_, ?_, ⟨?_, ?_, ?_⟩, fun i hi => ?_⟩
  · rw [gvS_out (by omega) (by omega)]; exact a1
  · rw [unF_o (by omega) (by omega)]; exact a2
  · rw [gvS_out (by omega) (by omega)]; exact a3
  · rw [unF_o (by omega) (by omega)]; exact a4
  · rw [gvS_out (by omega) (by omega), unF_o (by omega) (by omega)]; exact a5
  · rw [unF_o (by omega) (by omega)]; exact a6
  · rw [gvS_out (by omega) (by omega), gvS_out (by omega) (by omega), unF_o (by omega) (by omega), unF_o (by omega) (by omega)]
    exact hk i hi
  · obtain ⟨e1, e2, e3, e4, e5, e6⟩ := bec_in (M := sI M 9 2 (nI (u - 1))) (k := 4) (q := stp o (u - 1)) (by omega)
    have hc : ∀ a, a ≠ 9 → (sI M 9 2 (nI (u - 1))).1 a = M.1 a := fun a ha => sI_out ha
    refine sg_mv h6 (fun i hi => ?_) (fun i hi => ?_) (fun i hi => ?_) (fun i hi => ?_) ?_ ?_ (fun j hj => unF_st hj) unF_3 (hu (u - 1) (by omega))
    · exact (e1 i hi).trans (by rw [hc _ (by omega)]; rfl)
    · exact (e2 i hi).trans (by rw [hc _ (by omega)]; rfl)
    · exact (e3 i hi).trans (by rw [hc _ (by omega)]; rfl)
    · exact (e4 i hi).trans (by rw [hc _ (by omega)]; rfl)
    · exact e5.trans (by rw [hc _ (by omega)]; rfl)
    · exact e6.trans (by rw [hc _ (by omega)]; rfl)
  · show (gvS o (u - 1) M).1 9 1 = nI o
    rw [gvS, bec_out (by omega), sI_oth (by decide)]; exact p1
  · show (gvS o (u - 1) M).1 9 2 = nI (u - 1)
    rw [gvS, bec_out (by omega), sI_same]
  · exact unF_38
  · have hm := Nat.mod_lt (o + i) (show 0 < 8 by decide)
    exact sg_fr h6 (fun a ha => gvS_out (by omega) (by omega)) (fun j hj => unF_o (by omega) (by omega)) (unF_o (by omega) (by omega)) (hu i (by omega))
theorem fr_bec {M M' : MM} {k q : Nat} (hk : 1 ≤ k ∧ k ≤ 46) (h : Fr M M') : Fr M (bec M' k q) := ⟨fun a ha => (bec_out (by omega)).trans (h.1 a ha), h.2⟩
theorem sim_undo {M : MM} {g y o u L : Nat} (h : Rel M g y o u L) :
    (sUn M o u).2 = (tUn (M.1 121) u).2 ∧ (sUn M o u).1.1 121 = M.1 121 ∧ REL (rI (sUn M o u).1 121 (tUn (M.1 121) u).1) := by
  unfold sUn tUn
  by_cases h1 : u = 0
  · rw [if_pos h1, if_pos h1]
    exact ⟨rfl, rel_id h⟩
  · rw [if_neg h1, if_neg h1]
    exact ⟨rfl, rel_dof h (fr_bec (by omega) (fr_s (by omega) (fr_rf M))) (sr_un h.1 (by omega))⟩
theorem i2l_N {n : Nat} (h : n < 2 ^ 31) : (nI n).toInt64 = Int64.ofNat n := by
  refine Int64.toInt_inj.mp ?_
  rw [Int32.toInt_toInt64, nI_toInt h, Int64.toInt_ofNat_of_lt (by omega)]
theorem l2i_N {n : Nat} (h : n < 2 ^ 31) : (Int64.ofNat n).toInt32 = nI n := by
  refine Int32.toInt_inj.mp ?_
  rw [Int64.toInt_toInt32, Int64.toInt_ofNat_of_lt (by omega), nI_toInt h, Int.bmod_eq_of_le (by omega) (by omega)]
theorem and31 (N : Nat) : nI N &&& 2147483647 = nI (N % 2147483648) := by
  rw [pk_and (nI N) (m := 2147483647) 31 rfl]
  have e : (nI N).toBitVec.toNat = N % 2 ^ 32 := BitVec.toNat_ofNat N 32
  rw [e]
  exact congrArg nI (by omega)
theorem drv_eq {n : Nat} (h : n < 2 ^ 31) {f : Nat → Int32} (hf : f 37 = nI n) : (nI n * 1103515245 + 12345) &&& 2147483647 = drv f ∧ ∃ k : Nat, k < 2 ^ 31 ∧ drv f = nI k := by
  have e1 : drl (f 37).toInt64 = Int64.ofNat (n * 1103515245 + 12345) := by
    unfold drl
    rw [hf, i2l_N h, show (1103515245 : Int64) = Int64.ofNat 1103515245 from rfl, show (12345 : Int64) = Int64.ofNat 12345 from rfl, ← Int64.ofNat_mul, ← Int64.ofNat_add]
  have e2 : drv f = nI ((n * 1103515245 + 12345) % 2147483648) := by
    unfold drv
    rw [e1]
    have := pk_lRem (a := n * 1103515245 + 12345) (b := 2147483648) (by omega) (by decide) (by decide)
    rw [show Int64.ofNat (n * 1103515245 + 12345) - Int64.ofNat (n * 1103515245 + 12345) / 2147483648 * 2147483648 = Int64.ofNat ((n * 1103515245 + 12345) % 2147483648) from this]
    exact l2i_N (by omega)
  refine ⟨?_, _, Nat.mod_lt _ (by decide), e2⟩
  rw [e2, show (1103515245 : Int32) = nI 1103515245 from rfl, show (12345 : Int32) = nI 12345 from rfl, pk_mul, show nI (n * 1103515245) + nI 12345 = nI (n * 1103515245 + 12345) from nI_add _ _, and31]
theorem sd_ex {M : MM} {F : Nat → Int32} {g y o u : Nat} (h : SR M 1 F g y o u) : ∃ n : Nat, n < 2 ^ 31 ∧ F 37 = nI n ∧ M.1 4 5 = nI n := by
  obtain ⟨s1, s2, s3, s4, s5, s7, s8, s9, s10⟩ := h.2.2.2.1
  have e0 : (0 : Int32).toInt = 0 := rfl
  rw [show 16 + 21 = 37 from rfl] at s8 s10
  rw [i32_le, e0] at s10
  have hl := Int32.toInt_lt (F 37)
  have e : F 37 = nI (F 37).toInt.toNat := by
    rw [i32_eq, nI_toInt (by omega)]
    omega
  exact ⟨(F 37).toInt.toNat, by omega, e, s8.trans e⟩
theorem sr_drw {M : MM} {F : Nat → Int32} {g y o u : Nat} (h : SR M 1 F g y o u) : SR (drw M) 1 (drH F) g y o u ∧ Fr M (drw M) ∧ dv M = drv F := by
  obtain ⟨n, hn, e1, e2⟩ := sd_ex h
  obtain ⟨k1, k, hk, k2⟩ := drv_eq hn e1
  have e3 : dv M = drv F := by rw [dv, e2]; exact k1
  refine ⟨?_, fr_s (by omega) (fr_rf M), e3⟩
  have : drw M = sI M 4 5 (drv F) := by rw [drw, ← e3]; rfl
  rw [this]
  refine sr_s ?_ h
  rw [k2]
  exact nI_le (a := 0) (by omega) (by omega)
theorem sr_blw {M : MM} {F : Nat → Int32} {g y o u : Nat} (c : Int32) (h : SR M 1 F g y o u) : ∀ n, n + 1 ≤ g → SR (blw M n).1 1 (blR F c n).1 g y o u ∧ Fr M (blw M n).1 ∧ (blR F c n).2 = c + (blw M n).2
  | 0, _ => ⟨h, fr_rf M, (Int32.add_zero c).symm⟩
  | n + 1, hn => by
    obtain ⟨ih, hf, hc⟩ := sr_blw c h n (by omega)
    have e5 := co_eq ih.2.2.2.1 (show n + 1 < g by omega)
    obtain ⟨d1, d2, d3⟩ := sr_drw ih
    have e6 := co_eq d1.2.2.2.1 (show n + 1 < g by omega)
    have e7 : drH (blR F c n).1 37 = dv (blw M n).1 := pk_us.trans d3.symm
    rw [blw, blR, e5, e6, e7]
    by_cases q1 : (blR F c n).1 (22 + n) < 12
    · rw [if_pos q1, if_pos q1]
      exact ⟨ih, hf, hc⟩
    · rw [if_neg q1, if_neg q1]
      by_cases q2 : drH (blR F c n).1 (22 + n) ≤ dv100 (blw M n).1
      · rw [if_pos q2, if_pos (show drH (blR F c n).1 (22 + n) ≤ dv (blw M n).1 / 65536 - dv (blw M n).1 / 65536 / 100 * 100 from q2)]
        exact ⟨d1, fr_tr hf d2, hc⟩
      · rw [if_neg q2, if_neg (show ¬ drH (blR F c n).1 (22 + n) ≤ dv (blw M n).1 / 65536 - dv (blw M n).1 / 65536 / 100 * 100 from q2)]
        obtain ⟨k1, k2⟩ := sr_clp d1 (show n + 1 < g by omega)
        refine ⟨k1, fr_tr (fr_tr hf d2) k2, ?_⟩
        show (blR F c n).2 + 1 = c + ((blw M n).2 + 1)
        rw [hc, Int32.add_assoc]
theorem sr_bl {M : MM} {F : Nat → Int32} {g y o u : Nat} (c : Int32) (h : SR M 1 F g y o u) : SR (blw M (g - 1)).1 1 (blR F c (g - 1)).1 g y o u ∧ Fr M (blw M (g - 1)).1 ∧ (blR F c (g - 1)).2 = c + (blw M (g - 1)).2 := by
  rcases Nat.eq_zero_or_pos g with e | e
  · subst e
    exact ⟨h, fr_rf M, (Int32.add_zero c).symm⟩
  · exact sr_blw c h _ (by omega)
theorem sr_dfs {g y : Nat} (h6 : g ≤ 6) : ∀ n {M : MM} {F : Nat → Int32} {o u z : Nat} {c : Int32}, SR M 1 F g y o u → F 3 = nI z → z + n ≤ 9999 → (∃ o' u', SR (dfs g n o u M c).1 1 (dfF g n u F c).1 g y o' u') ∧ Fr M (dfs g n o u M c).1 ∧ (dfs g n o u M c).2 = (dfF g n u F c).2
  | 0, M, F, o, u, z, c, h, _, _ => ⟨⟨o, u, h⟩, fr_rf M, rfl⟩
  | n + 1, M, F, o, u, z, c, h, hz, hn => by
    have h1 := sr_rem h
    obtain ⟨h2, f2, z2⟩ := sr_pwk h1 (by rw [rmF_lo _ _ (by decide)]; exact hz) (show z < 9999 by omega)
    obtain ⟨h4, f4, c4⟩ := sr_bl c h2
    have z4 : (blR (gosF g (rmF u F)).1 c (g - 1)).1 3 = nI (z + 1) := by rw [blR_fr _ _ (by decide) (by decide) _ (by omega)]; exact z2
    obtain ⟨h3, f3, c3⟩ := sr_dfs h6 n (c := (blR (gosF g (rmF u F)).1 c (g - 1)).2) h4 z4 (by omega)
    rw [dfs, dfF, ← c4]
    exact ⟨h3, fr_tr (fr_tr (fr_tr fr_ad f2) f4) f3, c3⟩
theorem sim_drift {M : MM} {g y o u L : Nat} {x : Int32} (h : Rel M g y o u L) :
    (sDf M g o u x).2 = (tDf (M.1 121) g u x).2 ∧ (sDf M g o u x).1.1 121 = M.1 121 ∧ REL (rI (sDf M g o u x).1 121 (tDf (M.1 121) g u x).1) := by
  have h6 := h.1.1.1
  unfold sDf tDf rfw
  rw [wk_eq h.1]
  by_cases h1 : wi x 1 52 = 0
  · rw [if_pos h1, if_pos h1, if_neg (by decide)]
    exact ⟨rfl, rel_id h⟩
  · rw [if_neg h1, if_neg h1]
    by_cases h2 : M.1 121 3 + x ≤ 9999
    · rw [if_pos h2, if_pos h2, if_pos rfl]
      obtain ⟨m, hm1, hm2, rfl⟩ := rng_of (a := 1) (b := 52) h1 (by decide) (by decide)
      rw [cl_nI (by omega)]
      obtain ⟨z, hz9, hz⟩ := h.1.2.2.2.1.2.2.2.2.2.2.2.1
      have hzm : z + m ≤ 9999 := by
        rw [hz, show nI z + nI m = nI (z + m) from nI_add z m, i32_le, nI_toInt (by omega)] at h2
        have : (9999 : Int32).toInt = 9999 := rfl
        omega
      obtain ⟨⟨o', u', h3⟩, f3, c3⟩ := sr_dfs (g := g) (y := y) h6 m (c := 0) h.1 hz hzm
      exact ⟨c3, rel_dof h f3 h3⟩
    · rw [if_neg h2, if_neg h2, if_neg (by decide)]
      exact ⟨rfl, rel_id h⟩
