/-! sheet, copy -/
theorem rz_1 (k : Nat) (M : MM) : ∀ j, (rz k M j).1 = M.1
  | 0 => rfl
  | j + 1 => rz_1 k M j
theorem rz_o (k : Nat) (M : MM) {a : Nat} (ha : a ≠ k + 1) : ∀ j, (rz k M j).2 a = M.2 a
  | 0 => rfl
  | j + 1 => by
    show (if a = k + 1 then _ else (rz k M j).2 a) = M.2 a
    rw [if_neg ha]
    exact rz_o k M ha j
theorem rz_in (k : Nat) (M : MM) {i : Nat} : ∀ j, i < j → (rz k M j).2 (k + 1) i = 0
  | 0, h => absurd h (by omega)
  | j + 1, h => by
    show (if k + 1 = k + 1 then vp_updL ((rz k M j).2 (k + 1)) j 0 else (rz k M j).2 (k + 1)) i = 0
    rw [if_pos rfl]
    by_cases e : i = j
    · subst e
      rw [pk_uLs]
    · rw [pk_uLn e]
      exact rz_in k M j (by omega)
theorem zrL_in (m : Nat → Int64) {a i : Nat} : ∀ j, i < j → zrL m a j (a + i) = 0
  | 0, h => absurd h (by omega)
  | j + 1, h => by
    rw [zrL]
    by_cases e : i = j
    · subst e
      rw [pk_uLs]
    · rw [pk_uLn (by omega)]
      exact zrL_in m j (by omega)
theorem zrL_o (m : Nat → Int64) {a p : Nat} : ∀ j, (p < a ∨ a + j ≤ p) → zrL m a j p = m p
  | 0, _ => rfl
  | j + 1, h => by
    rw [zrL, pk_uLn (by omega)]
    exact zrL_o m j (by omega)
theorem sim_sheet {M : MM} {g y o u L : Nat} {x l z : Int32} (h : Rel M g y o u L) :
    (sSh M x l z).2 = (tSh (sSh M x l z).1 ((sSh M x l z).1.2 128) x l z).2 ∧ REL (tSh (sSh M x l z).1 ((sSh M x l z).1.2 128) x l z).1 := by
  unfold sSh tSh
  by_cases h1 : wi x 0 3 = 0
  · rw [if_pos h1, if_pos (show bshS x l = 0 from if_pos h1), rL_id]
    exact ⟨rfl, ⟨g, y, o, u, L, h⟩⟩
  · rw [if_neg h1]
    by_cases h2 : wi l 0 3 = 0
    · rw [if_pos h2, if_pos (show bshS x l = 0 from (if_neg h1).trans (if_pos h2)), rL_id]
      exact ⟨rfl, ⟨g, y, o, u, L, h⟩⟩
    · have hb : ¬ bshS x l = 0 := by rw [show bshS x l = 1 from (if_neg h1).trans (if_neg h2)]; decide
      rw [if_neg h2, if_neg hb]
      by_cases h3 : z ≤ 24
      · rw [if_neg (fun q => q h3), if_pos h3]
        by_cases h4 : 0 ≤ z
        · rw [if_pos h4, if_pos h4]
          obtain ⟨s, hs0, hs1, rfl⟩ := rng_of (a := 0) (b := 3) h1 (by decide) (by decide)
          have hs : s < 4 := by omega
          rw [cl_nI (by omega)]
          have hz : ∃ len, z = nI len ∧ len ≤ 24 := by
            have e0 : (0 : Int32).toInt = 0 := rfl
            have e24 : (24 : Int32).toInt = 24 := rfl
            rw [i32_le, e0] at h4
            rw [i32_le, e24] at h3
            refine ⟨z.toInt.toNat, ?_, by omega⟩
            rw [i32_eq, nI_toInt (by omega)]
            omega
          dsimp only
          have r1 : (rnw (112 + 2 * s) M l z).1 = (sI (sI (sI M (112 + 2 * s) 1 1) (112 + 2 * s) 2 l) (112 + 2 * s) 3 z).1 := rz_1 _ _ _
          have r2 : ∀ a, a ≠ 112 + 2 * s + 1 → (rnw (112 + 2 * s) M l z).2 a = M.2 a := fun a ha => rz_o _ _ ha _
          have r3 : ∀ i, i < 24 → (rnw (112 + 2 * s) M l z).2 (112 + 2 * s + 1) i = 0 := fun i hi => rz_in _ _ _ hi
          generalize hN : rnw (112 + 2 * s) M l z = N at r1 r2 r3 ⊢
          have rk : ∀ a, a ≠ 112 + 2 * s → N.1 a = M.1 a := fun a ha => by rw [r1, sI_out ha, sI_out ha, sI_out ha]
          refine ⟨rfl, rel_sh h (fun a ha => ?_) (fun a q1 q2 _ => ?_) (fun t ht => ?_)⟩
          · rw [rL_1, sI_out (by omega), sI_out (by omega), rk a (by omega)]
          · rw [rL_1, sI_out (by omega), sI_out (by omega), rk a (by omega)]
          · have t2 : (rL (sI (sI N 127 s z) 126 s l) 128 (zrL (N.2 128) (24 * s) 24)).2 (112 + 2 * t + 1) = N.2 (112 + 2 * t + 1) := by
              show (if 112 + 2 * t + 1 = 128 then _ else N.2 (112 + 2 * t + 1)) = _
              rw [if_neg (by omega)]
            unfold ShR
            rw [rL_at, t2, rL_1, sI_out (show 112 + 2 * t ≠ 126 by omega), sI_out (show 112 + 2 * t ≠ 127 by omega), sI_out (show (127 : Nat) ≠ 126 by decide)]
            by_cases e : t = s
            · subst e
              obtain ⟨len, e1, e2⟩ := hz
              refine ⟨⟨len, ?_, e2⟩, Or.inr ⟨?_, ?_, ?_, fun i hi => ?_⟩⟩
              · rw [r1, sI_same]; exact e1
              · rw [r1, sI_oth (by decide), sI_oth (by decide), sI_same]; decide
              · rw [sI_same, r1, sI_same]
              · rw [sI_same, r1, sI_oth (by decide), sI_same]
              · rw [r3 i hi, zrL_in _ _ hi]
            · rw [sI_oth e, sI_oth e, sI_out (show (126 : Nat) ≠ 127 by decide), rk _ (by omega), rk 127 (by omega), rk 126 (by omega), r2 _ (by omega), r2 128 (by omega)]
              obtain ⟨l0, hp⟩ := h.2.2.1 t ht
              refine ⟨l0, ?_⟩
              rcases hp with p | ⟨p1, p2, p3, p4⟩
              · exact Or.inl p
              · refine Or.inr ⟨p1, p2, p3, fun i hi => ?_⟩
                rw [zrL_o _ _ (by omega)]
                exact p4 i hi
        · rw [if_neg h4, if_neg h4, rL_id]
          exact ⟨rfl, ⟨g, y, o, u, L, h⟩⟩
      · rw [if_pos h3, if_neg h3, rL_id]
        exact ⟨rfl, ⟨g, y, o, u, L, h⟩⟩
theorem cpL_f {m : Nat → Int64} {s t a b z : Nat} (hba : b ≤ a) (hd : 24 * t + b ≤ 24 * s + a ∨ 24 * s + a + z ≤ 24 * t + b) : ∀ j, j ≤ z → (∀ i, i < j → cpL m s t a b z j (24 * t + b + i) = m (24 * s + a + i)) ∧ (∀ p, (p < 24 * t + b ∨ 24 * t + b + j ≤ p) → cpL m s t a b z j p = m p)
  | 0, _ => ⟨fun i hi => absurd hi (by omega), fun _ _ => rfl⟩
  | j + 1, hj => by
    obtain ⟨i1, i2⟩ := cpL_f (m := m) hba hd j (by omega)
    have ec : cpI a b z j = j := if_pos hba
    rw [cpL, ec, i2 (24 * s + a + j) (by omega)]
    refine ⟨fun i hi => ?_, fun p hp => ?_⟩
    · by_cases e : i = j
      · subst e
        rw [pk_uLs]
      · rw [pk_uLn (by omega)]
        exact i1 i (by omega)
    · rw [pk_uLn (by omega)]
      exact i2 p (by omega)
theorem cpL_b {m : Nat → Int64} {s t a b z : Nat} (hba : ¬ b ≤ a) (hd : 24 * s + a ≤ 24 * t + b ∨ 24 * t + b + z ≤ 24 * s + a) : ∀ j, j ≤ z → (∀ i, z - j ≤ i → i < z → cpL m s t a b z j (24 * t + b + i) = m (24 * s + a + i)) ∧ (∀ p, (p < 24 * t + b + (z - j) ∨ 24 * t + b + z ≤ p) → cpL m s t a b z j p = m p)
  | 0, _ => ⟨fun i h1 h2 => absurd h1 (by omega), fun _ _ => rfl⟩
  | j + 1, hj => by
    obtain ⟨i1, i2⟩ := cpL_b (m := m) hba hd j (by omega)
    have ec : cpI a b z j = z - 1 - j := if_neg hba
    rw [cpL, ec, i2 (24 * s + a + (z - 1 - j)) (by omega)]
    refine ⟨fun i h1 h2 => ?_, fun p hp => ?_⟩
    · by_cases e : i = z - 1 - j
      · subst e
        rw [pk_uLs]
      · rw [pk_uLn (by omega)]
        exact i1 i (by omega) h2
    · rw [pk_uLn (by omega)]
      exact i2 p (by omega)
theorem cpL_all {m : Nat → Int64} {s t a b z : Nat} (ha : a + z ≤ 24) (hb : b + z ≤ 24) : (∀ i, i < z → cpL m s t a b z z (24 * t + b + i) = m (24 * s + a + i)) ∧ (∀ p, (p < 24 * t + b ∨ 24 * t + b + z ≤ p) → cpL m s t a b z z p = m p) := by
  by_cases hba : b ≤ a
  · exact cpL_f hba (by omega) z (by omega)
  · obtain ⟨h1, h2⟩ := cpL_b (m := m) (s := s) (t := t) (z := z) hba (by omega) z (by omega)
    exact ⟨fun i hi => h1 i (by omega) hi, fun p hp => h2 p (by omega)⟩
theorem hs_neg {len x z : Int32} (h : z < 0) : hsS len x z = 0 := by
  by_cases q : x < 0
  · rw [hsS, if_pos q]
  · rw [hsS, if_neg q, if_pos h]
theorem fn_lt {M : MM} {s : Nat} {x z : Int32} (h : ShR M s) (hz : ¬ z < 0) (hp : ¬ M.1 (112 + 2 * s) 1 = 0) : (hsS (M.1 (112 + 2 * s) 3) x z = 0) ↔ (fnd (M.1 126) (M.1 127) s (M.1 126 s) x z < 0) := by
  obtain ⟨⟨ln, e3, hl⟩, hh⟩ := h
  rcases hh with ⟨p1, _⟩ | ⟨p1, p2, p3, p4⟩
  · exact absurd p1 hp
  · unfold fnd
    rw [p2, e3, if_pos (show (0 : Int32) ≤ nI ln from nI_le (a := 0) (by omega) (by omega)), if_pos rfl, hs_iff hl hz]
    by_cases q1 : x < 0
    · rw [if_pos q1]
      exact ⟨fun _ => by decide, fun _ => Or.inl q1⟩
    · rw [if_neg q1]
      by_cases q2 : x.toInt + z.toInt ≤ (nI ln).toInt
      · rw [if_pos q2]
        exact ⟨fun r => r.elim (fun r => absurd r q1) (fun r => absurd q2 r), fun r => absurd r (by decide)⟩
      · rw [if_neg q2]
        exact ⟨fun _ => by decide, fun _ => Or.inr q2⟩
theorem sim_copy {M : MM} {g y o u L : Nat} {x a v b z : Int32} (h : Rel M g y o u L) :
    (sCp M x a v b z).2 = (tCp (sCp M x a v b z).1 ((sCp M x a v b z).1.2 128) x a v b z).2 ∧ (sCp M x a v b z).1.1 = M.1 ∧ REL (tCp (sCp M x a v b z).1 ((sCp M x a v b z).1.2 128) x a v b z).1 := by
  unfold sCp tCp
  by_cases h1 : wi x 0 3 = 0
  · rw [if_pos h1, if_pos h1, rL_id]
    exact ⟨rfl, rfl, ⟨g, y, o, u, L, h⟩⟩
  · rw [if_neg h1, if_neg h1]
    by_cases h2 : wi v 0 3 = 0
    · rw [if_pos h2, if_pos h2, rL_id]
      exact ⟨rfl, rfl, ⟨g, y, o, u, L, h⟩⟩
    · rw [if_neg h2, if_neg h2]
      obtain ⟨s, hs0, hs1, rfl⟩ := rng_of (a := 0) (b := 3) h1 (by decide) (by decide)
      obtain ⟨t, ht0, ht1, rfl⟩ := rng_of (a := 0) (b := 3) h2 (by decide) (by decide)
      have hs : s < 4 := by omega
      have ht : t < 4 := by omega
      rw [cl_nI (by omega), cl_nI (by omega)]
      have Hs := h.2.2.1 s hs
      have Ht := h.2.2.1 t ht
      obtain ⟨⟨l1, s3, sl⟩, hps⟩ := Hs
      obtain ⟨⟨l2, t3, tl⟩, hpt⟩ := Ht
      rcases hps with ⟨p1, p2⟩ | ⟨p1, p2, p3, p4⟩
      · rw [if_pos p1]
        dsimp only
        rw [if_pos (show M.1 127 s < 0 by rw [p2]; decide), rL_id]
        exact ⟨rfl, rfl, ⟨g, y, o, u, L, h⟩⟩
      · rw [if_neg p1]
        have ns : ¬ M.1 127 s < 0 := by rw [p2, s3]; exact nI_nlt (b := 0) (by omega) (by omega)
        rcases hpt with ⟨q1, q2⟩ | ⟨q1, q2, q3, q4⟩
        · rw [if_pos q1]
          dsimp only
          rw [if_neg ns, if_neg (show ¬ 0 ≤ M.1 127 t by rw [q2]; decide), rL_id]
          exact ⟨rfl, rfl, ⟨g, y, o, u, L, h⟩⟩
        · rw [if_neg q1]
          have nt : 0 ≤ M.1 127 t := by rw [q2, t3]; exact nI_le (a := 0) (by omega) (by omega)
          by_cases c1 : M.1 (112 + 2 * s) 2 = M.1 (112 + 2 * t) 2
          · rw [if_neg (fun q => q c1)]
            have c2 : M.1 126 s = M.1 126 t := by rw [p3, q3]; exact c1
            by_cases c3 : z < 0
            · rw [if_pos (hs_neg c3)]
              dsimp only
              rw [if_neg ns, if_pos nt, if_pos c2, if_pos c3, rL_id]
              exact ⟨rfl, rfl, ⟨g, y, o, u, L, h⟩⟩
            · by_cases c4 : hsS (M.1 (112 + 2 * s) 3) a z = 0
              · rw [if_pos c4]
                dsimp only
                rw [if_neg ns, if_pos nt, if_pos c2, if_neg c3, if_pos ((fn_lt (h.2.2.1 s hs) c3 p1).mp c4), rL_id]
                exact ⟨rfl, rfl, ⟨g, y, o, u, L, h⟩⟩
              · rw [if_neg c4]
                have d4 : ¬ fnd (M.1 126) (M.1 127) s (M.1 126 s) a z < 0 := fun q => c4 ((fn_lt (h.2.2.1 s hs) c3 p1).mpr q)
                by_cases c5 : hsS (M.1 (112 + 2 * t) 3) b z = 0
                · rw [if_pos c5]
                  have d5 : ¬ 0 ≤ fnd (M.1 126) (M.1 127) t (M.1 126 t) b z := Int32.not_le.mpr ((fn_lt (h.2.2.1 t ht) c3 q1).mp c5)
                  dsimp only
                  rw [if_neg ns, if_pos nt, if_pos c2, if_neg c3, if_neg d4, if_neg d5, rL_id]
                  exact ⟨rfl, rfl, ⟨g, y, o, u, L, h⟩⟩
                · rw [if_neg c5]
                  have d5 : 0 ≤ fnd (M.1 126) (M.1 127) t (M.1 126 t) b z := Int32.not_lt.mp (fun q => c5 ((fn_lt (h.2.2.1 t ht) c3 q1).mpr q))
                  obtain ⟨a2, z2, hab, rfl, rfl⟩ := fnd_ok (shr_N h.2.2.1 s hs) c3 (Int32.not_lt.mp d4)
                  obtain ⟨b2, z3, hab2, rfl, hz3⟩ := fnd_ok (shr_N h.2.2.1 t ht) c3 d5
                  have hz4 : z2 = z3 := (nI_eq (by omega) (by omega)).mp hz3
                  subst hz4
                  rw [cl_nI (by omega), cl_nI (by omega), cl_nI (by omega)]
                  dsimp only
                  rw [rL_1, if_neg ns, if_pos nt, if_pos c2, if_neg c3, if_neg d4, if_pos d5]
                  refine ⟨rfl, rfl, rel_sh h (fun _ _ => rfl) (fun _ _ _ _ => rfl) (fun r hr => ?_)⟩
                  have e128 : (rL M (112 + 2 * t + 1) (va_cpy (M.2 (112 + 2 * s + 1)) (M.2 (112 + 2 * t + 1)) a2 b2 z2)).2 128 = M.2 128 := by
                    show (if (128 : Nat) = 112 + 2 * t + 1 then _ else M.2 128) = _
                    rw [if_neg (by omega)]
                  rw [e128]
                  obtain ⟨k1, k2⟩ := cpL_all (m := M.2 128) (s := s) (t := t) hab hab2
                  obtain ⟨l0, hp⟩ := h.2.2.1 r hr
                  refine ⟨l0, ?_⟩
                  rcases hp with p | ⟨r1, r2, r3, r4⟩
                  · exact Or.inl p
                  · refine Or.inr ⟨r1, r2, r3, fun i hi => ?_⟩
                    rw [rL_at]
                    have e2 : (rL (rL M (112 + 2 * t + 1) (va_cpy (M.2 (112 + 2 * s + 1)) (M.2 (112 + 2 * t + 1)) a2 b2 z2)) 128 (cpL (M.2 128) s t a2 b2 z2 z2)).2 (112 + 2 * r + 1) = if 112 + 2 * r + 1 = 112 + 2 * t + 1 then va_cpy (M.2 (112 + 2 * s + 1)) (M.2 (112 + 2 * t + 1)) a2 b2 z2 else M.2 (112 + 2 * r + 1) := by
                      show (if 112 + 2 * r + 1 = 128 then _ else _) = _
                      rw [if_neg (by omega)]
                      rfl
                    rw [e2]
                    by_cases e : r = t
                    · subst e
                      rw [if_pos rfl]
                      by_cases c : b2 ≤ i ∧ i < b2 + z2
                      · rw [pk_cpy_in c.1 c.2, p4 _ (by omega)]
                        have := k1 (i - b2) (by omega)
                        rw [show 24 * r + b2 + (i - b2) = 24 * r + i by omega, show 24 * s + a2 + (i - b2) = 24 * s + (a2 + (i - b2)) by omega] at this
                        exact this.symm
                      · rw [pk_cpy_out (by omega), k2 _ (by omega)]
                        exact r4 i hi
                    · rw [if_neg (by omega), k2 _ (by omega)]
                      exact r4 i hi
          · rw [if_pos c1]
            have c2 : ¬ M.1 126 s = M.1 126 t := by rw [p3, q3]; exact c1
            dsimp only
            rw [if_neg ns, if_pos nt, if_neg c2, rL_id]
            exact ⟨rfl, rfl, ⟨g, y, o, u, L, h⟩⟩
