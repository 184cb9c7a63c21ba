/-! weeks at once and week by week -/
theorem asQ_I (x : Int32) : (asQ x).toInt = max 0 (min 99 x.toInt) := by
  have e0 : (0 : Int32).toInt = 0 := rfl
  have e99 : (99 : Int32).toInt = 99 := rfl
  unfold asQ
  by_cases h1 : x < 99
  · rw [if_pos h1]
    by_cases h2 : 0 < x
    · rw [if_pos h2]
      rw [i32_lt] at h1 h2
      omega
    · rw [if_neg h2]
      rw [i32_lt] at h1 h2
      omega
  · rw [if_neg h1, if_pos (by decide)]
    rw [i32_lt] at h1
    omega
theorem mulN1 (d : Int32) (k : Nat) : nI (k + 1) * d = nI k * d + d := by
  rw [nI_succ, Int32.add_mul, Int32.one_mul]
theorem mulN {d : Int32} (h1 : -200 ≤ d.toInt) (h2 : d.toInt ≤ 200) : ∀ k : Nat, k ≤ 300 → -200 * (k : Int) ≤ (nI k * d).toInt ∧ (nI k * d).toInt ≤ 200 * (k : Int) ∧ (0 ≤ d.toInt → 0 ≤ (nI k * d).toInt) ∧ (d.toInt ≤ 0 → (nI k * d).toInt ≤ 0)
  | 0, _ => by
    have e : nI 0 * d = 0 := Int32.zero_mul
    have e0 : (0 : Int32).toInt = 0 := rfl
    rw [e, e0]
    omega
  | k + 1, hk => by
    obtain ⟨a, b, c, e⟩ := mulN h1 h2 k (by omega)
    rw [mulN1, Int32.toInt_add, Int.bmod_eq_of_le (by omega) (by omega)]
    refine ⟨by omega, by omega, fun q => ?_, fun q => ?_⟩
    · have := c q; omega
    · have := e q; omega
theorem asq_step {q d : Int32} {k : Nat} (q0 : 0 ≤ q.toInt) (q9 : q.toInt ≤ 99) (h1 : -200 ≤ d.toInt) (h2 : d.toInt ≤ 200) (hk : k ≤ 200) : asQ (asQ (q + nI k * d) + d) = asQ (q + nI (k + 1) * d) := by
  obtain ⟨a, b, c, e⟩ := mulN h1 h2 k (by omega)
  rw [i32_eq, asQ_I, asQ_I, mulN1, Int32.toInt_add, asQ_I, Int32.toInt_add, Int32.toInt_add, Int32.toInt_add]
  rw [Int.bmod_eq_of_le (n := q.toInt + (nI k * d).toInt) (by omega) (by omega), Int.bmod_eq_of_le (n := (nI k * d).toInt + d.toInt) (by omega) (by omega), Int.bmod_eq_of_le (n := q.toInt + ((nI k * d).toInt + d.toInt)) (by omega) (by omega), Int.bmod_eq_of_le (by omega) (by omega)]
  rcases Int.le_total 0 d.toInt with s | s
  · have := c s
    omega
  · have := e s
    omega
theorem asQ_0 {q d : Int32} (q0 : 0 ≤ q.toInt) (q9 : q.toInt ≤ 99) : asQ (q + nI 0 * d) = q := by
  have e : nI 0 * d = 0 := Int32.zero_mul
  rw [e, Int32.add_zero, i32_eq, asQ_I]
  omega
set_option maxRecDepth 100000 in
set_option maxHeartbeats 4000000 in
theorem gal_d : ∀ k : Nat, k < 5 → ∀ n : Nat, n < 10 → ∀ c : Nat, c < 20 → 0 ≤ gal (nI k) (nI n) (nI c) ∧ gal (nI k) (nI n) (nI c) ≤ 13 := by decide +kernel
theorem gal_b {k n c : Int32} (hk : bd k 4) (hn : bd n 9) (hc : bd c 19) : 0 ≤ (gal k n c).toInt ∧ (gal k n c).toInt ≤ 13 := by
  obtain ⟨a, ha, rfl⟩ := hk
  obtain ⟨b, hb, rfl⟩ := hn
  obtain ⟨d, hd, rfl⟩ := hc
  have h := gal_d a (by omega) b (by omega) d (by omega)
  have e0 : (0 : Int32).toInt = 0 := rfl
  have e1 : (13 : Int32).toInt = 13 := rfl
  rw [i32_le, i32_le, e0, e1] at h
  exact h
theorem bd_I {x : Int32} {n : Nat} (hn : n < 10000) (h : bd x n) : 0 ≤ x.toInt ∧ x.toInt ≤ n := by
  obtain ⟨z, hz, rfl⟩ := h
  rw [nI_toInt (by omega)]
  omega
def WB (F : Nat → Int32) (w : Nat) : Prop := bd (F (4 + w)) 4 ∧ bd (F (4 + (w + 1))) 4 ∧ bd (F (10 + w)) 9 ∧ bd (F (10 + (w + 1))) 9 ∧ bd (F 2) 9
theorem wb_of {M : MM} {F : Nat → Int32} {g y o u w : Nat} (h : SR M 1 F g y o u) (hw : w + 1 < g) : WB F w := by
  have hk := h.2.2.1
  exact ⟨(hk w (by omega)).2.2.1, (hk (w + 1) hw).2.2.1, (hk w (by omega)).2.2.2, (hk (w + 1) hw).2.2.2, h.2.1.2.2.2.2.2⟩
/-- what a wall's quarrel grows by, at a height -/
def gd (F : Nat → Int32) (w : Nat) (c : Int32) : Int32 := gal (F (4 + w)) (F (10 + (w + 1))) c + gal (F (4 + (w + 1))) (F (10 + w)) c - F 2
theorem gd_b {F : Nat → Int32} {w : Nat} {c : Int32} (h : WB F w) (hc : bd c 19) : -200 ≤ (gd F w c).toInt ∧ (gd F w c).toInt ≤ 200 := by
  obtain ⟨a, b, d, e, f⟩ := h
  have h1 := gal_b a e hc
  have h2 := gal_b b d hc
  have h3 := bd_I (by decide) f
  unfold gd
  rw [Int32.toInt_sub, Int32.toInt_add, Int.bmod_eq_of_le (n := (gal (F (4 + w)) (F (10 + (w + 1))) c).toInt + (gal (F (4 + (w + 1))) (F (10 + w)) c).toInt) (by omega) (by omega), Int.bmod_eq_of_le (by omega) (by omega)]
  omega
theorem gwF_hi (h : Nat → Int32) {a : Nat} : ∀ n, 27 + n ≤ a → gwF h n a = h a
  | 0, _ => rfl
  | n + 1, ha => by rw [gwF, upd_o (by omega)]; exact gwF_hi h n (by omega)
theorem wkf_lo {f h : Nat → Int32} (e : ∀ a, a < 27 → f a = h a) {w : Nat} (hw : w < 5) : wkf f w = wkf h w := by
  unfold wkf
  rw [e _ (by omega), e _ (by omega), e _ (by omega), e _ (by omega), e _ (by omega), e _ (by omega)]
theorem gwF_at (h : Nat → Int32) {w : Nat} : ∀ n, n ≤ 5 → w < n → gwF h n (27 + w) = asQ (h (27 + w) + wkf h w)
  | 0, _, hw => absurd hw (by omega)
  | n + 1, hn, hw => by
    rw [gwF]
    by_cases e : w = n
    · subst e
      rw [pk_us, gwF_hi h w (by omega), wkf_lo (fun a ha => gwF_lo h ha w) (by omega)]
    · rw [upd_o (by omega)]
      exact gwF_at h n (by omega) (by omega)
theorem mcF_o (h : Nat → Int32) {n a : Nat} (h1 : a ≠ 16 + n) (h2 : a ≠ 16 + n + 1) (h3 : a ≠ 22 + n) : mcF h n a = h a := by
  unfold mcF
  (try dsimp only)
  rw [upd_o h3, upd_o h2, upd_o h1]
theorem mch_27 (h : Nat → Int32) {w : Nat} (hw : w < 5) : ∀ n, n ≤ 5 → (mch h n).1 (27 + w) = h (27 + w)
  | 0, _ => rfl
  | n + 1, hn => (mcF_o _ (by omega) (by omega) (by omega)).trans (mch_27 h hw n (by omega))
theorem mch_hi (h : Nat → Int32) {a : Nat} : ∀ n, n ≤ 5 → 22 + n ≤ a → (mch h n).1 a = h a
  | 0, _, _ => rfl
  | n + 1, hn, ha => (mcF_o _ (by omega) (by omega) (by omega)).trans (mch_hi h n (by omega) (by omega))
theorem mch_22 (h : Nat → Int32) {w : Nat} : ∀ n, n ≤ 5 → w < n → (mch h n).1 (22 + w) = h (27 + w) / 5
  | 0, _, hw => absurd hw (by omega)
  | n + 1, hn, hw => by
    by_cases e : w = n
    · subst e
      show mcF (mch h w).1 w (22 + w) = _
      unfold mcF
      (try dsimp only)
      rw [pk_us, mch_27 h (by omega) w (by omega)]
    · exact (mcF_o _ (by omega) (by omega) (by omega)).trans (mch_22 h n (by omega) (by omega))
theorem gos_at {h : Nat → Int32} {g w yy ww : Nat} (h6 : g ≤ 6) (hw : w + 1 < g) (e1 : h 1 = nI yy) (e3 : h 3 = nI ww) (y2 : 2 ≤ yy) (y9 : yy ≤ 99) (w9 : ww ≤ 20000) :
    (gosF g h).1 (27 + w) = asQ (h (27 + w) + gd h w (h (22 + w))) ∧ (gosF g h).1 (22 + w) = (if yy - ww % yy = 1 then asQ (h (27 + w) + gd h w (h (22 + w))) / 5 else h (22 + w)) := by
  have q1 : gw3 h g (27 + w) = asQ (h (27 + w) + gd h w (h (22 + w))) := by
    rw [gw3, upd_o (by omega), gwF_at h (g - 1) (by omega) (by omega)]
    rfl
  have q2 : gw3 h g (22 + w) = h (22 + w) := by rw [gw3, upd_o (by omega), gwF_lo h (by omega)]
  have er : rem (gw3 h g 3) (gw3 h g 1) = nI ((ww + 1) % yy) := by
    rw [gw3, pk_us, upd_o (by decide), gwF_lo h (by decide), gwF_lo h (by decide), e1, e3, nI_1]
    exact pk_rem (by omega) (by omega) (by omega)
  have hml2 := Nat.mod_lt (ww + 1) (show 0 < yy by omega)
  unfold gosF
  rw [er]
  by_cases q : yy - ww % yy = 1
  · rw [if_pos (show nI ((ww + 1) % yy) = 0 by rw [(mod_up y2).mpr q]; rfl), if_pos q, mch_27 _ (by omega) _ (by omega), mch_22 _ _ (by omega) (by omega), q1]
    exact ⟨rfl, rfl⟩
  · have q3 : ¬ nI ((ww + 1) % yy) = 0 := fun r => q ((mod_up y2).mp ((nI_eq (a := (ww + 1) % yy) (b := 0) (by omega) (by decide)).mp r))
    rw [if_neg q3, if_neg q]
    exact ⟨q1, q2⟩
theorem goN_succ (g : Nat) : ∀ n (h : Nat → Int32), goN g (n + 1) h = (gosF g (goN g n h)).1
  | 0, _ => rfl
  | n + 1, h => by
    rw [goN, goN_succ g n (gosF g h).1]
    rfl
theorem gd_cg {f h : Nat → Int32} {w : Nat} (hw : w < 5) (e : ∀ a, a ≠ 3 → a < 16 → f a = h a) (c : Int32) : gd f w c = gd h w c := by
  unfold gd
  rw [e _ (by omega) (by omega), e _ (by omega) (by omega), e _ (by omega) (by omega), e _ (by omega) (by omega), e _ (by omega) (by omega)]
theorem mod_add {ww yy k : Nat} (h : k < yy - ww % yy) (y0 : 0 < yy) : (ww + k) % yy = ww % yy + k := by
  have hl := Nat.mod_lt ww y0
  rw [Nat.add_mod, Nat.mod_eq_of_lt (show k < yy by omega), Nat.mod_eq_of_lt (by omega)]
/-- week by week till Michaelmas -/
theorem go_in {h : Nat → Int32} {g w yy ww : Nat} (h6 : g ≤ 6) (hw : w + 1 < g) (e1 : h 1 = nI yy) (e3 : h 3 = nI ww) (y2 : 2 ≤ yy) (y9 : yy ≤ 99) (w9 : ww ≤ 19000) (wb : WB h w) (hq : bd (h (27 + w)) 99) (hc : bd (h (22 + w)) 19) : ∀ k, k ≤ yy - ww % yy →
    goN g k h (27 + w) = asQ (h (27 + w) + nI k * gd h w (h (22 + w))) ∧ (goN g k h (22 + w) = if k = yy - ww % yy then asQ (h (27 + w) + nI k * gd h w (h (22 + w))) / 5 else h (22 + w))
  | 0, hk => by
    have hl := Nat.mod_lt ww (show 0 < yy by omega)
    have hb := bd_I (by decide) hq
    rw [asQ_0 hb.1 hb.2, if_neg (by omega)]
    exact ⟨rfl, rfl⟩
  | k + 1, hk => by
    have hl := Nat.mod_lt ww (show 0 < yy by omega)
    obtain ⟨i1, i2⟩ := go_in h6 hw e1 e3 y2 y9 w9 wb hq hc k (by omega)
    rw [if_neg (by omega)] at i2
    have hb := bd_I (by decide) hq
    have hgb := gd_b wb hc
    have f1 : goN g k h 1 = nI yy := (goN_fr g h6 (by decide) (by decide) k h).trans e1
    have f3 : goN g k h 3 = nI (ww + k) := goN_3 g h6 k h ww e3
    obtain ⟨s1, s2⟩ := gos_at (h := goN g k h) h6 hw f1 f3 y2 y9 (by omega)
    rw [goN_succ, s1, s2, i1, i2, gd_cg (f := goN g k h) (h := h) (by omega) (fun a q1 q2 => goN_fr g h6 q1 (by omega) k h), asq_step hb.1 hb.2 hgb.1 hgb.2 (by omega), mod_add (by omega) (by omega)]
    refine ⟨rfl, ?_⟩
    by_cases q : k + 1 = yy - ww % yy
    · rw [if_pos q, if_pos (by omega)]
    · rw [if_neg q, if_neg (by omega)]
