/-! type, sheets -/
theorem rel_ts {M M' : MM} {g y o u L L' : Nat} (h : Rel M g y o u L) (e : ∀ a, a < 101 → M'.1 a = M.1 a) (e1 : M'.1 121 = M.1 121) (e4 : M'.1 124 = M.1 124) (e0 : M'.1 120 4 = M.1 120 4) (ht : TpR M' L') (hh : ∀ s, s < 4 → ShR M' s) : REL M' := by
  refine ⟨g, y, o, u, L', ?_, ht, hh, imr_fr (by rw [e _ (by decide)]) e0 (fun a _ h2 => e a h2) e4 h.2.2.2⟩
  rw [e1]
  exact sr_fr (fun a _ h2 => e a (by omega)) (fun _ _ => rfl) h.1
theorem sim_type {M : MM} {g y o u L : Nat} {x : Int32} (h : Rel M g y o u L) :
    (sTy M L x).2 = (tTy (sTy M L x).1 L x).2 ∧ (sTy M L x).1.1 120 6 = nI L ∧ REL (tTy (sTy M L x).1 L x).1 := by
  obtain ⟨l60, t1, t2, t3⟩ := h.2.1
  unfold sTy tTy
  by_cases h1 : wi x 32 126 = 0
  · rw [if_pos h1, if_pos h1]
    exact ⟨rfl, t2, ⟨g, y, o, u, L, h⟩⟩
  · rw [if_neg h1, if_neg h1]
    by_cases h2 : L = 60
    · subst h2
      rw [if_neg (show ¬ nI 60 < 60 by decide), if_neg (fun q => q (show nI 60 = 60 from rfl))]
      exact ⟨rfl, t2, ⟨g, y, o, u, _, h⟩⟩
    · have q1 : nI L < 60 := nI_lt (b := 60) (by omega) (by decide)
      have q2 : ¬ nI L = 60 := fun e => h2 ((nI_eq (a := L) (b := 60) (by omega) (by decide)).mp e)
      rw [if_pos q1, if_pos q2]
      obtain ⟨z, hz1, hz2, rfl⟩ := rng_of (a := 32) (b := 126) h1 (by decide) (by decide)
      have ex : vp_nar .char ((nI z).toUInt32 % 65536).toInt32 = nI z := by
        rw [pk_vc, pk_char, pk_tn (by omega), Nat.mod_eq_of_lt (by omega)]
      dsimp only
      unfold wrt
      rw [ex]
      refine ⟨rfl, ?_, rel_ts (L' := L + 1) h (fun a ha => ?_) ?_ ?_ ?_ ⟨by omega, ?_, ?_, fun i hi => ?_⟩ (fun s hs => shr_fr (M := M) hs (fun a h1 h2 => ?_) ?_ ?_ rfl (h.2.2.1 s hs))⟩
      · rw [sI_out (by decide), sI_out (by decide)]; exact t2
      · rw [sI_out (by omega), sI_out (by omega), sI_out (by omega), sI_out (by omega)]
      · rw [sI_out (by omega), sI_out (by omega), sI_out (by omega), sI_out (by omega)]
      · rw [sI_out (by omega), sI_out (by omega), sI_out (by omega), sI_out (by omega)]
      · rw [sI_oth (by decide), sI_out (by omega), sI_out (by omega), sI_out (by omega)]
      · rw [sI_out (by omega), sI_out (by omega), sI_same, nI_1]
      · rw [sI_same, nI_1]
      · rw [sI_out (show (107 : Nat) ≠ 120 by decide), sI_out (show (107 : Nat) ≠ 125 by decide), sI_out (show (107 : Nat) ≠ 106 by decide), sI_out (show (125 : Nat) ≠ 120 by decide)]
        by_cases e : i = L
        · subst e
          rw [sI_same, sI_same]
          exact ⟨rfl, z, hz1, hz2, rfl⟩
        · rw [sI_oth e, sI_oth e, sI_out (by decide), sI_out (by decide)]
          exact t3 i (by omega)
      · rw [sI_out (by omega), sI_out (by omega), sI_out (by omega), sI_out (by omega)]
      · rw [sI_out (by omega), sI_out (by omega), sI_out (by omega), sI_out (by omega)]
      · rw [sI_out (by omega), sI_out (by omega), sI_out (by omega), sI_out (by omega)]
theorem rL_id (M : MM) (k : Nat) : rL M k (M.2 k) = M := by
  refine Prod.ext rfl ?_
  funext a
  by_cases ha : a = k
  · subst ha; simp [rL]
  · simp [rL, ha]
theorem hs_iff {ln : Nat} {x z : Int32} (hl : ln ≤ 24) (hz : ¬ z < 0) : (hsS (nI ln) x z = 0) ↔ (x < 0 ∨ ¬ x.toInt + z.toInt ≤ (nI ln).toInt) := by
  have e0 : (0 : Int32).toInt = 0 := rfl
  have el : (nI ln).toInt = ln := nI_toInt (by omega)
  have hz1 := Int32.toInt_lt z
  have hz0 : 0 ≤ z.toInt := by rw [i32_lt, e0] at hz; omega
  have es : (nI ln - z).toInt = ln - z.toInt := by
    rw [Int32.toInt_sub, el, Int.bmod_eq_of_le (by omega) (by omega)]
  unfold hsS
  by_cases h1 : x < 0
  · rw [if_pos h1]
    exact ⟨fun _ => Or.inl h1, fun _ => rfl⟩
  · rw [if_neg h1, if_neg hz, el]
    by_cases h2 : nI ln - z < x
    · rw [if_pos h2]
      rw [i32_lt, es] at h2
      exact ⟨fun _ => Or.inr (by omega), fun _ => rfl⟩
    · rw [if_neg h2]
      rw [i32_lt, es] at h2
      refine ⟨fun q => absurd q (by decide), fun q => ?_⟩
      rcases q with q | q
      · exact absurd q h1
      · exact absurd (show x.toInt + z.toInt ≤ ln by omega) q
theorem rf_eq {M : MM} {s : Nat} {l x z : Int32} (h : ShR M s) (hz : ¬ z < 0) : rfS M (112 + 2 * s) l x z = fnd (M.1 126) (M.1 127) s l x z := by
  obtain ⟨⟨ln, e3, hl⟩, hp⟩ := h
  unfold rfS fnd
  rcases hp with ⟨p1, p2⟩ | ⟨p1, p2, p3, p4⟩
  · rw [if_pos p1, p2, if_neg (by decide)]
  · rw [if_neg p1, p2, p3, e3, if_pos (show (0 : Int32) ≤ nI ln from nI_le (a := 0) (by omega) (by omega))]
    by_cases q : M.1 (112 + 2 * s) 2 = l
    · rw [if_neg (fun r => r q), if_pos q]
      by_cases q2 : hsS (nI ln) x z = 0
      · rw [if_pos q2]
        rcases (hs_iff hl hz).mp q2 with r | r
        · rw [if_pos r]
        · by_cases r2 : x < 0
          · rw [if_pos r2]
          · rw [if_neg r2, if_neg r]
      · rw [if_neg q2]
        have r1 : ¬ x < 0 := fun r => q2 ((hs_iff hl hz).mpr (Or.inl r))
        have r2 : x.toInt + z.toInt ≤ (nI ln).toInt := Classical.byContradiction (fun r => q2 ((hs_iff hl hz).mpr (Or.inr r)))
        rw [if_neg r1, if_pos r2]
    · rw [if_pos q, if_neg q]
theorem rf_0 {M : MM} {s : Nat} {l x z : Int32} (h : ShR M s) (hz : ¬ z < 0) : (rfS M (112 + 2 * s) l x z = 0) ↔ (0 ≤ fnd (M.1 126) (M.1 127) s l x z) := by
  rw [rf_eq h hz]
  unfold fnd
  by_cases h1 : 0 ≤ M.1 127 s
  · rw [if_pos h1]
    by_cases h2 : M.1 126 s = l
    · rw [if_pos h2]
      by_cases h3 : x < 0
      · rw [if_pos h3]; decide
      · rw [if_neg h3]
        by_cases h4 : x.toInt + z.toInt ≤ (M.1 127 s).toInt
        · rw [if_pos h4]; decide
        · rw [if_neg h4]; decide
    · rw [if_neg h2]; decide
  · rw [if_neg h1]; decide
theorem shr_N {M : MM} (h : ∀ s, s < 4 → ShR M s) : ∀ s, s < 4 → M.1 127 s ≤ 24 := by
  intro s hs
  obtain ⟨⟨ln, e3, hl⟩, hp⟩ := h s hs
  rcases hp with ⟨p1, p2⟩ | ⟨p1, p2, p3, p4⟩
  · rw [p2]; decide
  · rw [p2, e3]
    exact nI_le (b := 24) hl (by decide)
theorem shr_l {M : MM} (h : ∀ s, s < 4 → ShR M s) : ∀ s, s < 4 → ∃ len, M.1 (112 + 2 * s) 3 = nI len ∧ len ≤ 24 := fun s hs => (h s hs).1
/-- sheets: what one call writes -/
theorem rel_sh {M M' : MM} {g y o u L : Nat} (h : Rel M g y o u L) (e : ∀ a, a < 112 → M'.1 a = M.1 a) (e2 : ∀ a, 120 ≤ a → a < 126 → a ≠ 122 → M'.1 a = M.1 a) (hh : ∀ s, s < 4 → ShR M' s) : REL M' := by
  refine rel_ts (L' := L) h (fun a ha => e a (by omega)) (e2 _ (by decide) (by decide) (by decide)) (e2 _ (by decide) (by decide) (by decide)) (by rw [e2 _ (by decide) (by decide) (by decide)]) (tpr_fr (by rw [e _ (by decide)]) (e _ (by decide)) (by rw [e2 _ (by decide) (by decide) (by decide)]) (e2 _ (by decide) (by decide) (by decide)) h.2.1) hh
theorem sim_drop {M : MM} {g y o u L : Nat} {x : Int32} (h : Rel M g y o u L) : (sDp M x).2 = (tDp (sDp M x).1 x).2 ∧ REL (tDp (sDp M x).1 x).1 := by
  unfold sDp tDp
  by_cases h1 : wi x 0 3 = 0
  · rw [if_pos h1, if_pos h1]
    exact ⟨rfl, ⟨g, y, o, u, L, h⟩⟩
  · rw [if_neg h1, if_neg h1]
    obtain ⟨s, hs0, hs1, rfl⟩ := rng_of (a := 0) (b := 3) h1 (by decide) (by decide)
    have hs : s < 4 := by omega
    rw [cl_nI (by omega)]
    obtain ⟨⟨ln, e3, hl⟩, hp⟩ := h.2.2.1 s hs
    rcases hp with ⟨p1, p2⟩ | ⟨p1, p2, p3, p4⟩
    · rw [if_pos p1]
      dsimp only
      rw [p2, if_neg (by decide)]
      exact ⟨rfl, ⟨g, y, o, u, L, h⟩⟩
    · rw [if_neg p1]
      dsimp only
      rw [sI_out (show 127 ≠ 112 + 2 * s by omega), p2, e3, if_pos (show (0 : Int32) ≤ nI ln from nI_le (a := 0) (by omega) (by omega))]
      refine ⟨rfl, rel_sh h (fun a ha => ?_) (fun a h1 h2 _ => ?_) (fun t ht => ?_)⟩
      · rw [sI_out (by omega), sI_out (by omega)]
      · rw [sI_out (by omega), sI_out (by omega)]
      · by_cases e : t = s
        · subst e
          refine ⟨⟨ln, ?_, hl⟩, Or.inl ⟨?_, ?_⟩⟩
          · rw [sI_out (by omega), sI_oth (by decide)]; exact e3
          · rw [sI_out (by omega), sI_same]
          · rw [sI_same]
        · have q := h.2.2.1 t ht
          unfold ShR
          rw [sI_out (show 112 + 2 * t ≠ 127 by omega), sI_out (show 112 + 2 * t ≠ 112 + 2 * s by omega), sI_oth e, sI_out (show 127 ≠ 112 + 2 * s by omega), sI_out (show (126 : Nat) ≠ 127 by decide), sI_out (show 126 ≠ 112 + 2 * s by omega)]
          exact q
theorem sim_item {M : MM} {g y o u L : Nat} {x l a : Int32} {v : Int64} (h : Rel M g y o u L) :
    (sIt M x l a v).2 = (tIt (sIt M x l a v).1 ((sIt M x l a v).1.2 128) x l a v).2 ∧ (sIt M x l a v).1.1 = M.1 ∧ REL (tIt (sIt M x l a v).1 ((sIt M x l a v).1.2 128) x l a v).1 := by
  unfold sIt tIt
  by_cases h1 : wi x 0 3 = 0
  · rw [if_pos h1, if_pos (show bshS x l = 0 from if_pos h1), rL_id]
    exact ⟨rfl, rfl, ⟨g, y, o, u, L, h⟩⟩
  · rw [if_neg h1]
    by_cases h2 : wi l 0 3 = 0
    · rw [if_pos h2, if_pos (show bshS x l = 0 from (if_neg h1).trans (if_pos h2)), rL_id]
      exact ⟨rfl, rfl, ⟨g, y, o, u, L, h⟩⟩
    · have hb : ¬ bshS x l = 0 := by rw [show bshS x l = 1 from (if_neg h1).trans (if_neg h2)]; decide
      rw [if_neg h2, if_neg hb]
      obtain ⟨s, hs0, hs1, rfl⟩ := rng_of (a := 0) (b := 3) h1 (by decide) (by decide)
      have hs : s < 4 := by omega
      rw [cl_nI (by omega)]
      by_cases h3 : rfS M (112 + 2 * s) l a 1 = 0
      · have h4 := (rf_0 (h.2.2.1 s hs) (by decide)).mp h3
        rw [if_pos h3]
        obtain ⟨a2, b2, hab, rfl, hb2⟩ := fnd_ok (shr_N h.2.2.1 s hs) (by decide) h4
        rw [cl_nI (by omega)]
        have hb3 : b2 = 1 := ((nI_eq (a := 1) (b := b2) (by decide) (by omega)).mp hb2).symm
        have hl : M.1 (112 + 2 * s) 2 = l := by
          unfold rfS at h3
          by_cases q1 : M.1 (112 + 2 * s) 1 = 0
          · rw [if_pos q1] at h3; exact absurd h3 (by decide)
          · rw [if_neg q1] at h3
            by_cases q2 : M.1 (112 + 2 * s) 2 = l
            · exact q2
            · rw [if_pos q2] at h3; exact absurd h3 (by decide)
        unfold ptS
        dsimp only
        rw [show (sL M (112 + 2 * s + 1) a2 (ctS (M.1 (112 + 2 * s) 2) v)).1 = M.1 from rfl, if_pos h4, hl]
        refine ⟨rfl, rfl, rel_sh h (fun _ _ => rfl) (fun _ _ _ _ => rfl) (fun t ht => ?_)⟩
        obtain ⟨l0, hp⟩ := h.2.2.1 t ht
        refine ⟨l0, ?_⟩
        rcases hp with p | ⟨p1, p2, p3, p4⟩
        · exact Or.inl p
        · refine Or.inr ⟨p1, p2, p3, fun i hi => ?_⟩
          have e1 : (rL (sL M (112 + 2 * s + 1) a2 (ctS l v)) 128 (vp_updL ((sL M (112 + 2 * s + 1) a2 (ctS l v)).2 128) (24 * s + a2) (ctS l v))).2 128 = vp_updL (M.2 128) (24 * s + a2) (ctS l v) := by
            rw [rL_at]
            congr 1
            show (if (128 : Nat) = 112 + 2 * s + 1 then _ else M.2 128) = M.2 128
            rw [if_neg (by omega)]
          have e2 : (rL (sL M (112 + 2 * s + 1) a2 (ctS l v)) 128 (vp_updL ((sL M (112 + 2 * s + 1) a2 (ctS l v)).2 128) (24 * s + a2) (ctS l v))).2 (112 + 2 * t + 1) = if 112 + 2 * t + 1 = 112 + 2 * s + 1 then vp_updL (M.2 (112 + 2 * s + 1)) a2 (ctS l v) else M.2 (112 + 2 * t + 1) := by
            show (if 112 + 2 * t + 1 = 128 then _ else _) = _
            rw [if_neg (by omega)]
            rfl
          rw [e1, e2]
          by_cases e : t = s
          · subst e
            rw [if_pos rfl]
            by_cases c : i = a2
            · subst c
              rw [pk_uLs, pk_uLs]
            · rw [pk_uLn c, pk_uLn (by omega)]
              exact p4 i hi
          · rw [if_neg (by omega), pk_uLn (by omega)]
            exact p4 i hi
      · have h4 : ¬ 0 ≤ fnd (M.1 126) (M.1 127) s l a 1 := fun q => h3 ((rf_0 (h.2.2.1 s hs) (by decide)).mpr q)
        rw [if_neg h3]
        dsimp only
        rw [if_neg h4, rL_id]
        exact ⟨rf_eq (h.2.2.1 s hs) (by decide), rfl, ⟨g, y, o, u, L, h⟩⟩
