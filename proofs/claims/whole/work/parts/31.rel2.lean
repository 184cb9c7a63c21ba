/-! the step kept before a deed -/
theorem shF_hi (f : Nat → Int32) {a : Nat} : ∀ j, 39 + j ≤ a → shF f j a = f a
  | 0, _ => rfl
  | j + 1, h => by rw [shF, upd_o (by omega)]; exact shF_hi f j (by omega)
theorem shF_in (f : Nat → Int32) {a : Nat} (ha : 39 ≤ a) : ∀ j, a < 39 + j → shF f j a = f (a + 23)
  | 0, h => absurd h (by omega)
  | j + 1, h => by
    rw [shF]
    by_cases e : a = 39 + j
    · subst e
      rw [pk_us, shF_hi f j (by omega)]
    · rw [upd_o e]
      exact shF_in f ha j (by omega)
theorem cpS_in (h : Nat → Int32) {a b i : Nat} : ∀ m, a + m ≤ b → i < m → cpS h a b m (b + i) = h (a + i)
  | 0, _, hi => absurd hi (by omega)
  | m + 1, hab, hi => by
    rw [cpS]
    by_cases e : i = m
    · subst e
      rw [pk_us, cpS_out h a b i (by omega)]
    · rw [upd_o (by omega)]
      exact cpS_in h m (by omega) (by omega)
theorem rmZ_lo (u : Nat) (f : Nat → Int32) {a : Nat} (ha : a < 38) : rmZ u f a = f a := by
  unfold rmZ
  split
  · rw [upd_o (by omega), shF_lo f (by omega)]
  · rfl
theorem rm_new {u j : Nat} {f : Nat → Int32} (hj : j < 22) : rmF u f (39 + 23 * rmU u + j) = f (16 + j) := by
  rw [rmF, upd_o (by omega), rm2, upd_o (by omega), rm1, cpS_in _ 22 (by omega) hj]
  exact rmZ_lo u f (by omega)
theorem rm_new22 {u : Nat} {f : Nat → Int32} : rmF u f (39 + 23 * rmU u + 22) = f 3 := by
  rw [rmF, upd_o (by omega), rm2, pk_us, rm1, cpS_out _ _ _ _ (by omega)]
  exact rmZ_lo u f (by omega)
theorem rm_old {u a : Nat} {f : Nat → Int32} (ha : 39 ≤ a) (h2 : a < 39 + 23 * rmU u) : rmF u f a = rmZ u f a := by
  rw [rmF, upd_o (by omega), rm2, upd_o (by omega), rm1, cpS_out _ _ _ _ (by omega)]
theorem rm_old7 {u a : Nat} {f : Nat → Int32} (hu : u < 8) (ha : 39 ≤ a) (h2 : a < 39 + 23 * u) : rmF u f a = f a := by
  have e : rmU u = u := if_neg (by omega)
  rw [rm_old ha (by omega), rmZ, if_neg (by omega)]
theorem rm_old8 {a : Nat} {f : Nat → Int32} (ha : 39 ≤ a) (h2 : a < 200) : rmF 8 f a = f (a + 23) := by
  have e : rmU 8 = 7 := rfl
  rw [rm_old ha (by omega), rmZ, if_pos rfl, upd_o (by omega), shF_in f ha _ (by omega)]
theorem adS_out {M : MM} {o u a : Nat} (h : a ≠ 9) (h2 : a < stp o u ∨ stp o u + 4 < a) : (adS o u M).1 a = M.1 a := by
  unfold adS
  split
  · rw [sI_out h, bec_out h2]
  · rw [sI_out h, bec_out h2]
theorem stp_rg (o u : Nat) : 11 ≤ stp o u ∧ stp o u + 4 ≤ 50 := by
  have := Nat.mod_lt (o + u) (show 0 < 8 by decide)
  unfold stp
  omega
theorem adS_lo {M : MM} {o u a : Nat} (h : a ≠ 9) (h2 : a < 11 ∨ 50 < a) : (adS o u M).1 a = M.1 a := by
  have := stp_rg o u
  exact adS_out h (by omega)
theorem adS_91 {M : MM} {o u : Nat} (ho : M.1 9 1 = nI o) : (adS o u M).1 9 1 = nI (nxO o u) := by
  have h := stp_rg o u
  unfold adS nxO
  split
  · rw [sI_oth (by decide), bec_out (by omega)]; exact ho
  · rw [sI_same]
theorem adS_92 {M : MM} {o u : Nat} (hu : M.1 9 2 = nI u) (hu8 : u ≤ 8) : (adS o u M).1 9 2 = nI (nxU u) := by
  have h := stp_rg o u
  unfold adS nxU
  split
  · rw [sI_same, nI_1]
  · rw [sI_oth (by decide), bec_out (by omega), hu]
    congr 1
    omega
theorem adS_new {M : MM} {o u g : Nat} {X X' : Nat → Int32} {b b' : Nat} {wk wk' : Int32} (h6 : g ≤ 6) (eX : ∀ j, j < 22 → X' (b' + j) = X (b + j)) (ew : wk' = wk) (h : SG M 4 g X b wk) : SG (adS o u M) (stp o u) g X' b' wk' := by
  have hr := stp_rg o u
  obtain ⟨e1, e2, e3, e4, e5, e6⟩ := bec_in (M := M) (k := stp o u) (q := 4) (by omega)
  have hS : ∀ a, a ≠ 9 → (adS o u M).1 a = (bec M (stp o u) 4).1 a := by
    intro a ha
    unfold adS
    split
    · rw [sI_out ha]
    · rw [sI_out ha]
  refine sg_mv h6 (fun i hi => ?_) (fun i hi => ?_) (fun i hi => ?_) (fun i hi => ?_) ?_ ?_ eX ew h
  · rw [hS _ (by omega)]; exact e1 i hi
  · rw [hS _ (by omega)]; exact e2 i hi
  · rw [hS _ (by omega)]; exact e3 i hi
  · rw [hS _ (by omega)]; exact e4 i hi
  · rw [hS _ (by omega)]; exact e5
  · rw [hS _ (by omega)]; exact e6
theorem sr_rem {M : MM} {F : Nat → Int32} {g y o u : Nat} (h : SR M 1 F g y o u) : SR (adS o u M) 1 (rmF u F) g y (nxO o u) (nxU u) := by
  obtain ⟨⟨h6, y2, y52, o8, u8⟩, ⟨a1, a2, a3, a4, a5, a6⟩, hk, hs, ⟨p1, p2, p3⟩, hu⟩ := h
  refine ⟨⟨h6, y2, y52, nxO_lt o8, nxU_le⟩, ⟨?_, ?_, ?_, ?_, ?_, ?_⟩, fun i hi => ?_, ?_, ⟨?_, ?_, ?_⟩, fun i hi => ?_⟩
  · rw [adS_lo (by omega) (by omega)]; exact a1
  · rw [rmF_lo _ _ (by omega)]; exact a2
  · rw [adS_lo (by omega) (by omega)]; exact a3
  · rw [rmF_lo _ _ (by omega)]; exact a4
  · rw [adS_lo (by omega) (by omega), rmF_lo _ _ (by omega)]; exact a5
  · rw [rmF_lo _ _ (by omega)]; exact a6
  · rw [adS_lo (by omega) (by omega), adS_lo (by omega) (by omega), rmF_lo _ _ (by omega), rmF_lo _ _ (by omega)]
    exact hk i hi
  · exact sg_fr h6 (fun a ha => adS_lo (by omega) (by omega)) (fun j hj => rmF_lo _ _ (by omega)) (rmF_lo _ _ (by omega)) hs
  · exact adS_91 p1
  · exact adS_92 p2 u8
  · exact rmF_38 p3 u8
  · by_cases h8 : u < 8
    · have en : nxU u = u + 1 := if_pos h8
      have eo : nxO o u = o := if_pos h8
      have eu : rmU u = u := if_neg (by omega)
      rw [eo]
      rw [en] at hi
      by_cases e : i = u
      · subst e
        have hn := adS_new (o := o) (u := i) (X' := rmF i F) (b' := 39 + 23 * i) (wk' := rmF i F (39 + 23 * i + 22)) h6 (fun j hj => by have q := rm_new (u := i) (j := j) (f := F) hj; rw [eu] at q; exact q) (by have q := rm_new22 (u := i) (f := F); rw [eu] at q; exact q) hs
        exact hn
      · have hiu : i < u := by omega
        have hne : (o + i) % 8 ≠ (o + u) % 8 := by omega
        have hm := Nat.mod_lt (o + i) (show 0 < 8 by decide)
        exact sg_fr h6 (fun a ha => adS_out (by omega) (by unfold stp; omega)) (fun j hj => rm_old7 h8 (by omega) (by omega)) (rm_old7 h8 (by omega) (by omega)) (hu i hiu)
    · have e8 : u = 8 := by omega
      subst e8
      have en : nxU 8 = 8 := rfl
      have eo : nxO o 8 = (o + 1) % 8 := rfl
      rw [eo]
      rw [en] at hi
      by_cases e : i = 7
      · subst e
        have hx : ((o + 1) % 8 + 7) % 8 = (o + 8) % 8 := by omega
        rw [hx]
        exact adS_new (o := o) (u := 8) (X' := rmF 8 F) (b' := 39 + 23 * 7) h6 (fun j hj => rm_new (u := 8) hj) (rm_new22 (u := 8)) hs
      · have hx : ((o + 1) % 8 + i) % 8 = (o + (i + 1)) % 8 := by omega
        have hne : (o + (i + 1)) % 8 ≠ (o + 8) % 8 := by omega
        have hm := Nat.mod_lt (o + (i + 1)) (show 0 < 8 by decide)
        rw [hx]
        refine sg_mv (b := 39 + 23 * (i + 1)) h6 (fun q _ => ?_) (fun q _ => ?_) (fun q _ => ?_) (fun q _ => ?_) ?_ ?_ (fun j hj => ?_) ?_ (hu (i + 1) (by omega))
        · rw [adS_out (by omega) (by unfold stp; omega)]
        · rw [adS_out (by omega) (by unfold stp; omega)]
        · rw [adS_out (by omega) (by unfold stp; omega)]
        · rw [adS_out (by omega) (by unfold stp; omega)]
        · rw [adS_out (by omega) (by unfold stp; omega)]
        · rw [adS_out (by omega) (by unfold stp; omega)]
        · rw [rm_old8 (by omega) (by omega)]
          exact congrArg F (by omega)
        · rw [rm_old8 (by omega) (by omega)]
          exact congrArg F (by omega)
