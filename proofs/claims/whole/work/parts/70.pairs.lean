/-! THE PAIRS: a call on the class, then the same on the reference: the same answer, and the relation holds again -/
def P2 (κ : KX) (l1 l2 : Nat) (y1 y2 : MD) (as : List Value) (M : MM) : Prop := ∃ (M1 M2 : MM) (v : Int32), REL M2 ∧ (∀ Q : Option Value → va_W → Prop, Q (some (.int v)) (wM κ M1) → CT κ (l1, 0, 0) y1 (rv κ 0 :: as) (wM κ M) Q) ∧ (∀ Q : Option Value → va_W → Prop, Q (some (.int v)) (wM κ M2) → CT κ (l2, 0, 0) y2 (rv κ 120 :: as) (wM κ M1) Q)
theorem CT_cg {κ : KX} {r : RM} {y : MD} {as : List Value} {M M' : MM} {Q : Option Value → va_W → Prop} (e : M = M') (h : CT κ r y as (wM κ M) Q) : CT κ r y as (wM κ M') Q := e ▸ h
theorem rI_at2 {X : MM} {k : Nat} {f : Nat → Int32} (e : X.1 k = f) : rI X k f = X := (congrArg (rI X k) e.symm).trans (rI_id X k)
theorem rLI_id (M : MM) : rI (rL M 128 (M.2 128)) 122 (M.1 122) = M := by
  rw [rL_id, rI_id]
section PRS
variable {κ : KX} {M : MM}
theorem yr_pos {y : Nat} (h : 2 ≤ y) (h2 : y ≤ 52) : 0 < nI y := nI_lt (a := 0) (by omega) (by omega)
theorem sh_len {M : MM} (h : ∀ s, s < 4 → ShR M s) : ∀ s, s < 4 → ∃ len, M.1 (112 + 2 * s) 3 = nI len ∧ len ≤ 24 := fun s hs => (h s hs).1
theorem sh_sz {M : MM} (h : ∀ s, s < 4 → ShR M s) : ∀ s, s < 4 → M.1 127 s ≤ 24 := by
  intro s hs
  obtain ⟨⟨len, h1, h2⟩, h3 | h3⟩ := h s hs
  · rw [h3.2]
    decide
  · rw [h3.2.1, h1]
    exact nI_le (b := 24) h2 (by omega)
theorem pr_garden {a b : Int32} (h : REL M) : P2 κ 2 1 mX6_garden mX7_garden [.int a, .int b] M := by
  obtain ⟨g, y, o, u, L, h⟩ := h
  obtain ⟨⟨h6, y2, y52, o8, u8⟩, ⟨a1, a2, a3, a4, a5, a6⟩, hk, ⟨s1, s2, s3, s4, s5, s7, s8, ⟨ww, w9, hw3⟩, s10⟩, ⟨p1, p2, p3⟩, hu⟩ := h.1
  have hy1 : 0 < M.1 1 3 := by rw [show M.1 1 3 = nI y from a3]; exact yr_pos y2 y52
  have hyf : 0 < M.1 121 1 := by rw [a4]; exact yr_pos y2 y52
  obtain ⟨e, e1, hR⟩ := sim_garden (kq := a) (no := b) h
  exact ⟨(sGdn M g a b).1, _, (sGdn M g a b).2, hR, fun Q hQ => c_X6_garden a1 h6 hQ, fun Q hQ => CT_cg (rI_at2 e1) (c_X7_garden a2 h6 (by rw [← e]; exact hQ))⟩
theorem pr_noise {a b : Int32} (h : REL M) : P2 κ 2 2 mX6_noise mX7_noise [.int a, .int b] M := by
  obtain ⟨g, y, o, u, L, h⟩ := h
  obtain ⟨⟨h6, y2, y52, o8, u8⟩, ⟨a1, a2, a3, a4, a5, a6⟩, hk, ⟨s1, s2, s3, s4, s5, s7, s8, ⟨ww, w9, hw3⟩, s10⟩, ⟨p1, p2, p3⟩, hu⟩ := h.1
  have hy1 : 0 < M.1 1 3 := by rw [show M.1 1 3 = nI y from a3]; exact yr_pos y2 y52
  have hyf : 0 < M.1 121 1 := by rw [a4]; exact yr_pos y2 y52
  obtain ⟨e, e1, hR⟩ := sim_noise (x := a) (v := b) h
  exact ⟨(sNs M g a b).1, _, (sNs M g a b).2, hR, fun Q hQ => c_X6_noise a1 h6 hQ, fun Q hQ => CT_cg (rI_at2 e1) (c_X7_noise a2 h6 (by rw [← e]; exact hQ))⟩
theorem pr_rule {a b : Int32} (h : REL M) : P2 κ 1 1 mX6_rule mX7_rule [.int a, .int b] M := by
  obtain ⟨g, y, o, u, L, h⟩ := h
  obtain ⟨⟨h6, y2, y52, o8, u8⟩, ⟨a1, a2, a3, a4, a5, a6⟩, hk, ⟨s1, s2, s3, s4, s5, s7, s8, ⟨ww, w9, hw3⟩, s10⟩, ⟨p1, p2, p3⟩, hu⟩ := h.1
  have hy1 : 0 < M.1 1 3 := by rw [show M.1 1 3 = nI y from a3]; exact yr_pos y2 y52
  have hyf : 0 < M.1 121 1 := by rw [a4]; exact yr_pos y2 y52
  obtain ⟨e, e1, hR⟩ := sim_rule (x := a) (v := b) h
  exact ⟨(sRl M a b).1, _, (sRl M a b).2, hR, fun Q hQ => c_X6_rule  hQ, fun Q hQ => CT_cg (rI_at2 e1) (c_X7_rule  (by rw [← e]; exact hQ))⟩
theorem pr_seed {a : Int32} (h : REL M) : P2 κ 0 1 mX6_seed mX7_seed [.int a] M := by
  obtain ⟨g, y, o, u, L, h⟩ := h
  obtain ⟨⟨h6, y2, y52, o8, u8⟩, ⟨a1, a2, a3, a4, a5, a6⟩, hk, ⟨s1, s2, s3, s4, s5, s7, s8, ⟨ww, w9, hw3⟩, s10⟩, ⟨p1, p2, p3⟩, hu⟩ := h.1
  have hy1 : 0 < M.1 1 3 := by rw [show M.1 1 3 = nI y from a3]; exact yr_pos y2 y52
  have hyf : 0 < M.1 121 1 := by rw [a4]; exact yr_pos y2 y52
  obtain ⟨e, e1, hR⟩ := sim_seed (x := a) h
  exact ⟨(sSd M a).1, _, (sSd M a).2, hR, fun Q hQ => c_X6_seed  hQ, fun Q hQ => CT_cg (rI_at2 e1) (c_X7_seed  (by rw [← e]; exact hQ))⟩
theorem pr_weeks {a : Int32} (h : REL M) : P2 κ 5 3 mX6_weeks mX7_weeks [.int a] M := by
  obtain ⟨g, y, o, u, L, h⟩ := h
  obtain ⟨⟨h6, y2, y52, o8, u8⟩, ⟨a1, a2, a3, a4, a5, a6⟩, hk, ⟨s1, s2, s3, s4, s5, s7, s8, ⟨ww, w9, hw3⟩, s10⟩, ⟨p1, p2, p3⟩, hu⟩ := h.1
  have hy1 : 0 < M.1 1 3 := by rw [show M.1 1 3 = nI y from a3]; exact yr_pos y2 y52
  have hyf : 0 < M.1 121 1 := by rw [a4]; exact yr_pos y2 y52
  obtain ⟨e, e1, hR⟩ := sim_weeks (x := a) h
  exact ⟨(sWk M g o u a).1, _, (sWk M g o u a).2, hR, fun Q hQ => c_X6_weeks a1 h6 hy1 p1 p2 o8 u8 hQ, fun Q hQ => CT_cg (rI_at2 e1) (c_X7_weeks a2 h6 hyf p3 u8 (by rw [← e]; exact hQ))⟩
theorem pr_drift {a : Int32} (h : REL M) : P2 κ 5 3 mX6_drift mX7_drift [.int a] M := by
  obtain ⟨g, y, o, u, L, h⟩ := h
  obtain ⟨⟨h6, y2, y52, o8, u8⟩, ⟨a1, a2, a3, a4, a5, a6⟩, hk, ⟨s1, s2, s3, s4, s5, s7, s8, ⟨ww, w9, hw3⟩, s10⟩, ⟨p1, p2, p3⟩, hu⟩ := h.1
  have hy1 : 0 < M.1 1 3 := by rw [show M.1 1 3 = nI y from a3]; exact yr_pos y2 y52
  have hyf : 0 < M.1 121 1 := by rw [a4]; exact yr_pos y2 y52
  obtain ⟨e, e1, hR⟩ := sim_drift (x := a) h
  exact ⟨(sDf M g o u a).1, _, (sDf M g o u a).2, hR, fun Q hQ => c_X6_drift a1 h6 hy1 p1 p2 o8 u8 hQ, fun Q hQ => CT_cg (rI_at2 e1) (c_X7_drift a2 h6 hyf p3 u8 (by rw [← e]; exact hQ))⟩
theorem pr_sorry {a : Int32} (h : REL M) : P2 κ 4 2 mX6_sorry mX7_sorry [.int a] M := by
  obtain ⟨g, y, o, u, L, h⟩ := h
  obtain ⟨⟨h6, y2, y52, o8, u8⟩, ⟨a1, a2, a3, a4, a5, a6⟩, hk, ⟨s1, s2, s3, s4, s5, s7, s8, ⟨ww, w9, hw3⟩, s10⟩, ⟨p1, p2, p3⟩, hu⟩ := h.1
  have hy1 : 0 < M.1 1 3 := by rw [show M.1 1 3 = nI y from a3]; exact yr_pos y2 y52
  have hyf : 0 < M.1 121 1 := by rw [a4]; exact yr_pos y2 y52
  obtain ⟨e, e1, hR⟩ := sim_sorry (x := a) h
  exact ⟨(sSy M g o u a).1, _, (sSy M g o u a).2, hR, fun Q hQ => c_X6_sorry a1 h6 p1 p2 o8 u8 hQ, fun Q hQ => CT_cg (rI_at2 e1) (c_X7_sorry a2 h6 p3 u8 (by rw [← e]; exact hQ))⟩
theorem pr_gift {a b c : Int32} (h : REL M) : P2 κ 4 2 mX6_gift mX7_gift [.int a, .int b, .int c] M := by
  obtain ⟨g, y, o, u, L, h⟩ := h
  obtain ⟨⟨h6, y2, y52, o8, u8⟩, ⟨a1, a2, a3, a4, a5, a6⟩, hk, ⟨s1, s2, s3, s4, s5, s7, s8, ⟨ww, w9, hw3⟩, s10⟩, ⟨p1, p2, p3⟩, hu⟩ := h.1
  have hy1 : 0 < M.1 1 3 := by rw [show M.1 1 3 = nI y from a3]; exact yr_pos y2 y52
  have hyf : 0 < M.1 121 1 := by rw [a4]; exact yr_pos y2 y52
  obtain ⟨e, e1, hR⟩ := sim_gift (x := a) (b := b) (v := c) h
  exact ⟨(sGf M g o u a b c).1, _, (sGf M g o u a b c).2, hR, fun Q hQ => c_X6_gift a1 h6 p1 p2 o8 u8 hQ, fun Q hQ => CT_cg (rI_at2 e1) (c_X7_gift a2 h6 p3 u8 (by rw [← e]; exact hQ))⟩
theorem pr_gossip {a b : Int32} (h : REL M) : P2 κ 4 2 mX6_gossip mX7_gossip [.int a, .int b] M := by
  obtain ⟨g, y, o, u, L, h⟩ := h
  obtain ⟨⟨h6, y2, y52, o8, u8⟩, ⟨a1, a2, a3, a4, a5, a6⟩, hk, ⟨s1, s2, s3, s4, s5, s7, s8, ⟨ww, w9, hw3⟩, s10⟩, ⟨p1, p2, p3⟩, hu⟩ := h.1
  have hy1 : 0 < M.1 1 3 := by rw [show M.1 1 3 = nI y from a3]; exact yr_pos y2 y52
  have hyf : 0 < M.1 121 1 := by rw [a4]; exact yr_pos y2 y52
  obtain ⟨e, e1, hR⟩ := sim_gossip (x := a) (v := b) h
  exact ⟨(sGo M g o u a b).1, _, (sGo M g o u a b).2, hR, fun Q hQ => c_X6_gossip a1 h6 p1 p2 o8 u8 hQ, fun Q hQ => CT_cg (rI_at2 e1) (c_X7_gossip a2 h6 p3 u8 (by rw [← e]; exact hQ))⟩
theorem pr_lovers {a : Int32} (h : REL M) : P2 κ 4 2 mX6_lovers mX7_lovers [.int a] M := by
  obtain ⟨g, y, o, u, L, h⟩ := h
  obtain ⟨⟨h6, y2, y52, o8, u8⟩, ⟨a1, a2, a3, a4, a5, a6⟩, hk, ⟨s1, s2, s3, s4, s5, s7, s8, ⟨ww, w9, hw3⟩, s10⟩, ⟨p1, p2, p3⟩, hu⟩ := h.1
  have hy1 : 0 < M.1 1 3 := by rw [show M.1 1 3 = nI y from a3]; exact yr_pos y2 y52
  have hyf : 0 < M.1 121 1 := by rw [a4]; exact yr_pos y2 y52
  obtain ⟨e, e1, hR⟩ := sim_lovers (x := a) h
  exact ⟨(sLv M g o u a).1, _, (sLv M g o u a).2, hR, fun Q hQ => c_X6_lovers a1 h6 p1 p2 o8 u8 hQ, fun Q hQ => CT_cg (rI_at2 e1) (c_X7_lovers a2 h6 p3 u8 (by rw [← e]; exact hQ))⟩
theorem pr_falls {a : Int32} (h : REL M) : P2 κ 4 2 mX6_falls mX7_falls [.int a] M := by
  obtain ⟨g, y, o, u, L, h⟩ := h
  obtain ⟨⟨h6, y2, y52, o8, u8⟩, ⟨a1, a2, a3, a4, a5, a6⟩, hk, ⟨s1, s2, s3, s4, s5, s7, s8, ⟨ww, w9, hw3⟩, s10⟩, ⟨p1, p2, p3⟩, hu⟩ := h.1
  have hy1 : 0 < M.1 1 3 := by rw [show M.1 1 3 = nI y from a3]; exact yr_pos y2 y52
  have hyf : 0 < M.1 121 1 := by rw [a4]; exact yr_pos y2 y52
  obtain ⟨e, e1, hR⟩ := sim_falls (x := a) h
  exact ⟨(sFl M g o u a).1, _, (sFl M g o u a).2, hR, fun Q hQ => c_X6_falls a1 h6 p1 p2 o8 u8 hQ, fun Q hQ => CT_cg (rI_at2 e1) (c_X7_falls a2 h6 p3 u8 (by rw [← e]; exact hQ))⟩
theorem pr_undo (h : REL M) : P2 κ 3 1 mX6_undo mX7_undo [] M := by
  obtain ⟨g, y, o, u, L, h⟩ := h
  obtain ⟨⟨h6, y2, y52, o8, u8⟩, ⟨a1, a2, a3, a4, a5, a6⟩, hk, ⟨s1, s2, s3, s4, s5, s7, s8, ⟨ww, w9, hw3⟩, s10⟩, ⟨p1, p2, p3⟩, hu⟩ := h.1
  have hy1 : 0 < M.1 1 3 := by rw [show M.1 1 3 = nI y from a3]; exact yr_pos y2 y52
  have hyf : 0 < M.1 121 1 := by rw [a4]; exact yr_pos y2 y52
  obtain ⟨e, e1, hR⟩ := sim_undo  h
  exact ⟨(sUn M o u).1, _, (sUn M o u).2, hR, fun Q hQ => c_X6_undo p1 p2 o8 u8 hQ, fun Q hQ => CT_cg (rI_at2 e1) (c_X7_undo p3 u8 (by rw [← e]; exact hQ))⟩
theorem pr_of {a b : Int32} (h : REL M) : P2 κ 2 2 mX6_of mX7_of [.int a, .int b] M := by
  obtain ⟨g, y, o, u, L, h⟩ := h
  obtain ⟨⟨h6, y2, y52, o8, u8⟩, ⟨a1, a2, a3, a4, a5, a6⟩, hk, ⟨s1, s2, s3, s4, s5, s7, s8, ⟨ww, w9, hw3⟩, s10⟩, ⟨p1, p2, p3⟩, hu⟩ := h.1
  have hy1 : 0 < M.1 1 3 := by rw [show M.1 1 3 = nI y from a3]; exact yr_pos y2 y52
  have hyf : 0 < M.1 121 1 := by rw [a4]; exact yr_pos y2 y52
  have e := sim_of (x := a) (wh := b) h
  exact ⟨M, M, sOf M g a b, ⟨g, y, o, u, L, h⟩, fun Q hQ => c_X6_of a1 h6 hQ, fun Q hQ => CT_cg (rI_id M 121) (c_X7_of a2 h6 (by rw [← e, rI_id]; exact hQ))⟩
theorem pr_wall {a b : Int32} (h : REL M) : P2 κ 2 2 mX6_wall mX7_wall [.int a, .int b] M := by
  obtain ⟨g, y, o, u, L, h⟩ := h
  obtain ⟨⟨h6, y2, y52, o8, u8⟩, ⟨a1, a2, a3, a4, a5, a6⟩, hk, ⟨s1, s2, s3, s4, s5, s7, s8, ⟨ww, w9, hw3⟩, s10⟩, ⟨p1, p2, p3⟩, hu⟩ := h.1
  have hy1 : 0 < M.1 1 3 := by rw [show M.1 1 3 = nI y from a3]; exact yr_pos y2 y52
  have hyf : 0 < M.1 121 1 := by rw [a4]; exact yr_pos y2 y52
  have e := sim_wall (x := a) (wh := b) h
  exact ⟨M, M, sWl M g a b, ⟨g, y, o, u, L, h⟩, fun Q hQ => c_X6_wall a1 h6 hQ, fun Q hQ => CT_cg (rI_id M 121) (c_X7_wall a2 h6 (by rw [← e, rI_id]; exact hQ))⟩
theorem pr_count {a : Int32} (h : REL M) : P2 κ 3 2 mX6_count mX7_count [.int a] M := by
  obtain ⟨g, y, o, u, L, h⟩ := h
  obtain ⟨⟨h6, y2, y52, o8, u8⟩, ⟨a1, a2, a3, a4, a5, a6⟩, hk, ⟨s1, s2, s3, s4, s5, s7, s8, ⟨ww, w9, hw3⟩, s10⟩, ⟨p1, p2, p3⟩, hu⟩ := h.1
  have hy1 : 0 < M.1 1 3 := by rw [show M.1 1 3 = nI y from a3]; exact yr_pos y2 y52
  have hyf : 0 < M.1 121 1 := by rw [a4]; exact yr_pos y2 y52
  have e := sim_count (x := a) h
  exact ⟨M, M, sCn M g a, ⟨g, y, o, u, L, h⟩, fun Q hQ => c_X6_count a1 h6 hy1 hQ, fun Q hQ => CT_cg (rI_id M 121) (c_X7_count a2 h6 hyf (by rw [← e, rI_id]; exact hQ))⟩
theorem pr_holds {a : Int32} (h : REL M) : P2 κ 2 1 mX6_holds mX7_holds [.int a] M := by
  obtain ⟨g, y, o, u, L, h⟩ := h
  obtain ⟨⟨h6, y2, y52, o8, u8⟩, ⟨a1, a2, a3, a4, a5, a6⟩, hk, ⟨s1, s2, s3, s4, s5, s7, s8, ⟨ww, w9, hw3⟩, s10⟩, ⟨p1, p2, p3⟩, hu⟩ := h.1
  have hy1 : 0 < M.1 1 3 := by rw [show M.1 1 3 = nI y from a3]; exact yr_pos y2 y52
  have hyf : 0 < M.1 121 1 := by rw [a4]; exact yr_pos y2 y52
  have e := sim_holds (x := a) h
  exact ⟨M, M, sHd M g a, ⟨g, y, o, u, L, h⟩, fun Q hQ => c_X6_holds a1 h6 hQ, fun Q hQ => c_X7_holds a2 h6 (by rw [← e]; exact hQ)⟩
theorem pr_ahead {a b c : Int32} (h : REL M) : P2 κ 5 4 mX6_ahead mX7_ahead [.int a, .int b, .int c] M := by
  obtain ⟨g, y, o, u, L, h⟩ := h
  obtain ⟨⟨h6, y2, y52, o8, u8⟩, ⟨a1, a2, a3, a4, a5, a6⟩, hk, ⟨s1, s2, s3, s4, s5, s7, s8, ⟨ww, w9, hw3⟩, s10⟩, ⟨p1, p2, p3⟩, hu⟩ := h.1
  have hy1 : 0 < M.1 1 3 := by rw [show M.1 1 3 = nI y from a3]; exact yr_pos y2 y52
  have hyf : 0 < M.1 121 1 := by rw [a4]; exact yr_pos y2 y52
  have e := sim_ahead (x := a) (v := b) (wh := c) (k := M.1 122) h
  exact ⟨M, _, sAh M g a b c, rel_122 h, fun Q hQ => c_X6_ahead a1 h6 hy1 hQ, fun Q hQ => CT_cg (rI_id M 122) (c_X7_ahead a2 h6 hyf (by rw [← e]; exact hQ))⟩
theorem pr_leastGift {a b : Int32} (h : REL M) : P2 κ 5 4 mX6_leastGift mX7_leastGift [.int a, .int b] M := by
  obtain ⟨g, y, o, u, L, h⟩ := h
  obtain ⟨⟨h6, y2, y52, o8, u8⟩, ⟨a1, a2, a3, a4, a5, a6⟩, hk, ⟨s1, s2, s3, s4, s5, s7, s8, ⟨ww, w9, hw3⟩, s10⟩, ⟨p1, p2, p3⟩, hu⟩ := h.1
  have hy1 : 0 < M.1 1 3 := by rw [show M.1 1 3 = nI y from a3]; exact yr_pos y2 y52
  have hyf : 0 < M.1 121 1 := by rw [a4]; exact yr_pos y2 y52
  have e := sim_leastGift (x := a) (hh := b) (k := M.1 122) h
  exact ⟨M, _, sLg M g a b, rel_122 h, fun Q hQ => c_X6_leastGift a1 h6 hy1 hQ, fun Q hQ => CT_cg (rI_id M 122) (c_X7_leastGift a2 h6 a4 (by omega) (by omega) hw3 (by omega) (by rw [← e]; exact hQ))⟩
theorem pr_settles (h : REL M) : P2 κ 5 4 mX6_settles mX7_settles [] M := by
  obtain ⟨g, y, o, u, L, h⟩ := h
  obtain ⟨⟨h6, y2, y52, o8, u8⟩, ⟨a1, a2, a3, a4, a5, a6⟩, hk, ⟨s1, s2, s3, s4, s5, s7, s8, ⟨ww, w9, hw3⟩, s10⟩, ⟨p1, p2, p3⟩, hu⟩ := h.1
  have hy1 : 0 < M.1 1 3 := by rw [show M.1 1 3 = nI y from a3]; exact yr_pos y2 y52
  have hyf : 0 < M.1 121 1 := by rw [a4]; exact yr_pos y2 y52
  obtain ⟨e, e1, hR⟩ := sim_settles  (k := (cmh g 21 (cm0 M) (wtm M) 0).1.1 122) h
  generalize hs : cmh g 21 (cm0 M) (wtm M) 0 = S at *
  have b2 : S.1.1 121 0 = nI g := by rw [e1]; exact a2
  have b4 : S.1.1 121 1 = nI y := by rw [e1]; exact a4
  have bw : S.1.1 121 3 = nI ww := by rw [e1]; exact hw3
  exact ⟨S.1, _, S.2, hR, fun Q hQ => c_X6_settles a1 h6 hy1 (by rw [hs]; exact hQ), fun Q hQ => CT_cg (rI_id S.1 122) (c_X7_settles b2 h6 b4 (by omega) (by omega) bw (by omega) (by rw [e1, ← e]; exact hQ))⟩
theorem pr_sorries {a b : Int32} (h : REL M) : P2 κ 5 4 mX6_sorries mX7_sorries [.int a, .int b] M := by
  obtain ⟨g, y, o, u, L, h⟩ := h
  obtain ⟨⟨h6, y2, y52, o8, u8⟩, ⟨a1, a2, a3, a4, a5, a6⟩, hk, ⟨s1, s2, s3, s4, s5, s7, s8, ⟨ww, w9, hw3⟩, s10⟩, ⟨p1, p2, p3⟩, hu⟩ := h.1
  have hy1 : 0 < M.1 1 3 := by rw [show M.1 1 3 = nI y from a3]; exact yr_pos y2 y52
  have hyf : 0 < M.1 121 1 := by rw [a4]; exact yr_pos y2 y52
  obtain ⟨e, e1, hR⟩ := sim_sorries (m := a) (wh := b) (k := (sSs M g a b).1.1 122) h
  generalize hs : sSs M g a b = S at *
  have b2 : S.1.1 121 0 = nI g := by rw [e1]; exact a2
  have b4 : S.1.1 121 1 = nI y := by rw [e1]; exact a4
  have bw : S.1.1 121 3 = nI ww := by rw [e1]; exact hw3
  exact ⟨S.1, _, S.2, hR, fun Q hQ => c_X6_sorries a1 h6 hy1 (by rw [hs]; exact hQ), fun Q hQ => CT_cg (rI_id S.1 122) (c_X7_sorries b2 h6 b4 (by omega) (by omega) bw (by omega) (by rw [e1, ← e]; exact hQ))⟩
theorem pr_stir {a b : Int32} (h : REL M) : P2 κ 5 4 mX6_stir mX7_stir [.int a, .int b] M := by
  obtain ⟨g, y, o, u, L, h⟩ := h
  obtain ⟨⟨h6, y2, y52, o8, u8⟩, ⟨a1, a2, a3, a4, a5, a6⟩, hk, ⟨s1, s2, s3, s4, s5, s7, s8, ⟨ww, w9, hw3⟩, s10⟩, ⟨p1, p2, p3⟩, hu⟩ := h.1
  have hy1 : 0 < M.1 1 3 := by rw [show M.1 1 3 = nI y from a3]; exact yr_pos y2 y52
  have hyf : 0 < M.1 121 1 := by rw [a4]; exact yr_pos y2 y52
  obtain ⟨e, e1, hR⟩ := sim_stir (x := a) (wh := b) (k := (sSr M g a b).1.1 122) h
  generalize hs : sSr M g a b = S at *
  have b2 : S.1.1 121 0 = nI g := by rw [e1]; exact a2
  have b4 : S.1.1 121 1 = nI y := by rw [e1]; exact a4
  have bw : S.1.1 121 3 = nI ww := by rw [e1]; exact hw3
  exact ⟨S.1, _, S.2, hR, fun Q hQ => c_X6_stir a1 h6 hy1 (by rw [hs]; exact hQ), fun Q hQ => CT_cg (rI_id S.1 122) (c_X7_stir b2 h6 b4 (by omega) (by omega) bw (by omega) (by rw [e1, ← e]; exact hQ))⟩
theorem pr_image (h : REL M) : P2 κ 4 1 mX6_image mX7_image [] M := by
  obtain ⟨g, y, o, u, L, h⟩ := h
  obtain ⟨⟨h6, y2, y52, o8, u8⟩, ⟨a1, a2, a3, a4, a5, a6⟩, hk, ⟨s1, s2, s3, s4, s5, s7, s8, ⟨ww, w9, hw3⟩, s10⟩, ⟨p1, p2, p3⟩, hu⟩ := h.1
  have hy1 : 0 < M.1 1 3 := by rw [show M.1 1 3 = nI y from a3]; exact yr_pos y2 y52
  have hyf : 0 < M.1 121 1 := by rw [a4]; exact yr_pos y2 y52
  exact ⟨sIm M, _, 1, sim_image h, fun Q hQ => c_X6_image hQ, fun Q hQ => CT_cg (rI_id (sIm M) 124) (c_X7_image hQ)⟩
theorem pr_restore (h : REL M) : P2 κ 4 1 mX6_restore mX7_restore [] M := by
  obtain ⟨g, y, o, u, L, h⟩ := h
  obtain ⟨⟨h6, y2, y52, o8, u8⟩, ⟨a1, a2, a3, a4, a5, a6⟩, hk, ⟨s1, s2, s3, s4, s5, s7, s8, ⟨ww, w9, hw3⟩, s10⟩, ⟨p1, p2, p3⟩, hu⟩ := h.1
  have hy1 : 0 < M.1 1 3 := by rw [show M.1 1 3 = nI y from a3]; exact yr_pos y2 y52
  have hyf : 0 < M.1 121 1 := by rw [a4]; exact yr_pos y2 y52
  obtain ⟨e, hR⟩ := sim_restore h
  exact ⟨(sRs M).1, _, (sRs M).2, hR, fun Q hQ => c_X6_restore hQ, fun Q hQ => CT_cg (rI_id (sRs M).1 121) (c_X7_restore (by rw [← e]; exact hQ))⟩
theorem pr_type {a : Int32} (h : REL M) : P2 κ 1 1 mX6_type mX7_type [.int a] M := by
  obtain ⟨g, y, o, u, L, h⟩ := h
  obtain ⟨⟨h6, y2, y52, o8, u8⟩, ⟨a1, a2, a3, a4, a5, a6⟩, hk, ⟨s1, s2, s3, s4, s5, s7, s8, ⟨ww, w9, hw3⟩, s10⟩, ⟨p1, p2, p3⟩, hu⟩ := h.1
  have hy1 : 0 < M.1 1 3 := by rw [show M.1 1 3 = nI y from a3]; exact yr_pos y2 y52
  have hyf : 0 < M.1 121 1 := by rw [a4]; exact yr_pos y2 y52
  obtain ⟨l60, t1, t2, t3⟩ := h.2.1
  obtain ⟨e, e6, hR⟩ := sim_type (x := a) h
  exact ⟨(sTy M L a).1, _, (sTy M L a).2, hR, fun Q hQ => c_X6_type t1 l60 hQ, fun Q hQ => c_X7_type e6 l60 (by rw [← e]; exact hQ)⟩
theorem pr_street (h : REL M) : P2 κ 6 4 mX6_street mX7_street [] M := by
  obtain ⟨g, y, o, u, L, h⟩ := h
  obtain ⟨⟨h6, y2, y52, o8, u8⟩, ⟨a1, a2, a3, a4, a5, a6⟩, hk, ⟨s1, s2, s3, s4, s5, s7, s8, ⟨ww, w9, hw3⟩, s10⟩, ⟨p1, p2, p3⟩, hu⟩ := h.1
  have hy1 : 0 < M.1 1 3 := by rw [show M.1 1 3 = nI y from a3]; exact yr_pos y2 y52
  have hyf : 0 < M.1 121 1 := by rw [a4]; exact yr_pos y2 y52
  obtain ⟨l60, t1, t2, t3⟩ := h.2.1
  obtain ⟨t, ht, e6, e, hR⟩ := sim_street h
  exact ⟨(sSt M L t).1, _, (sSt M L t).2, hR, fun Q hQ => c_X6_street t1 l60 ht hQ, fun Q hQ => CT_cg (rI_id (sSt M L t).1 123) (c_X7_street e6 l60 (by rw [← e]; exact hQ))⟩
theorem pr_sheet {a b c : Int32} (h : REL M) : P2 κ 2 2 mX6_sheet mX7_sheet [.int a, .int b, .int c] M := by
  obtain ⟨g, y, o, u, L, h⟩ := h
  obtain ⟨⟨h6, y2, y52, o8, u8⟩, ⟨a1, a2, a3, a4, a5, a6⟩, hk, ⟨s1, s2, s3, s4, s5, s7, s8, ⟨ww, w9, hw3⟩, s10⟩, ⟨p1, p2, p3⟩, hu⟩ := h.1
  have hy1 : 0 < M.1 1 3 := by rw [show M.1 1 3 = nI y from a3]; exact yr_pos y2 y52
  have hyf : 0 < M.1 121 1 := by rw [a4]; exact yr_pos y2 y52
  obtain ⟨e, hR⟩ := sim_sheet (x := a) (l := b) (z := c) h
  exact ⟨(sSh M a b c).1, _, (sSh M a b c).2, hR, fun Q hQ => c_X6_sheet hQ, fun Q hQ => CT_cg (rL_id (sSh M a b c).1 128) (c_X7_sheet (by rw [← e]; exact hQ))⟩
theorem pr_drop {a : Int32} (h : REL M) : P2 κ 2 1 mX6_drop mX7_drop [.int a] M := by
  obtain ⟨g, y, o, u, L, h⟩ := h
  obtain ⟨⟨h6, y2, y52, o8, u8⟩, ⟨a1, a2, a3, a4, a5, a6⟩, hk, ⟨s1, s2, s3, s4, s5, s7, s8, ⟨ww, w9, hw3⟩, s10⟩, ⟨p1, p2, p3⟩, hu⟩ := h.1
  have hy1 : 0 < M.1 1 3 := by rw [show M.1 1 3 = nI y from a3]; exact yr_pos y2 y52
  have hyf : 0 < M.1 121 1 := by rw [a4]; exact yr_pos y2 y52
  obtain ⟨e, hR⟩ := sim_drop (x := a) h
  exact ⟨(sDp M a).1, _, (sDp M a).2, hR, fun Q hQ => c_X6_drop hQ, fun Q hQ => c_X7_drop (by rw [← e]; exact hQ)⟩
theorem pr_item {a b c : Int32} {v : Int64} (h : REL M) : P2 κ 2 2 mX6_item mX7_item [.int a, .int b, .int c, .long v] M := by
  obtain ⟨g, y, o, u, L, h⟩ := h
  obtain ⟨⟨h6, y2, y52, o8, u8⟩, ⟨a1, a2, a3, a4, a5, a6⟩, hk, ⟨s1, s2, s3, s4, s5, s7, s8, ⟨ww, w9, hw3⟩, s10⟩, ⟨p1, p2, p3⟩, hu⟩ := h.1
  have hy1 : 0 < M.1 1 3 := by rw [show M.1 1 3 = nI y from a3]; exact yr_pos y2 y52
  have hyf : 0 < M.1 121 1 := by rw [a4]; exact yr_pos y2 y52
  obtain ⟨e, e1, hR⟩ := sim_item (x := a) (l := b) (a := c) (v := v) h
  exact ⟨(sIt M a b c v).1, _, (sIt M a b c v).2, hR, fun Q hQ => c_X6_item (sh_len h.2.2.1) hQ, fun Q hQ => CT_cg (rL_id (sIt M a b c v).1 128) (c_X7_item (by rw [e1]; exact sh_sz h.2.2.1) (by rw [← e]; exact hQ))⟩
theorem pr_copy {a b c d e : Int32} (h : REL M) : P2 κ 2 1 mX6_copy mX7_copy [.int a, .int b, .int c, .int d, .int e] M := by
  obtain ⟨g, y, o, u, L, h⟩ := h
  obtain ⟨⟨h6, y2, y52, o8, u8⟩, ⟨a1, a2, a3, a4, a5, a6⟩, hk, ⟨s1, s2, s3, s4, s5, s7, s8, ⟨ww, w9, hw3⟩, s10⟩, ⟨p1, p2, p3⟩, hu⟩ := h.1
  have hy1 : 0 < M.1 1 3 := by rw [show M.1 1 3 = nI y from a3]; exact yr_pos y2 y52
  have hyf : 0 < M.1 121 1 := by rw [a4]; exact yr_pos y2 y52
  obtain ⟨e0, e1, hR⟩ := sim_copy (x := a) (a := b) (v := c) (b := d) (z := e) h
  exact ⟨(sCp M a b c d e).1, _, (sCp M a b c d e).2, hR, fun Q hQ => c_X6_copy (sh_len h.2.2.1) hQ, fun Q hQ => CT_cg (rL_id (sCp M a b c d e).1 128) (c_X7_copy (by rw [e1]; exact sh_sz h.2.2.1) (by rw [← e0]; exact hQ))⟩
theorem pr_film {a b c d e : Int32} (h : REL M) : P2 κ 4 4 mX6_film mX7_film [.int a, .int b, .int c, .int d, .int e] M := by
  obtain ⟨g, y, o, u, L, h⟩ := h
  obtain ⟨⟨h6, y2, y52, o8, u8⟩, ⟨a1, a2, a3, a4, a5, a6⟩, hk, ⟨s1, s2, s3, s4, s5, s7, s8, ⟨ww, w9, hw3⟩, s10⟩, ⟨p1, p2, p3⟩, hu⟩ := h.1
  have hy1 : 0 < M.1 1 3 := by rw [show M.1 1 3 = nI y from a3]; exact yr_pos y2 y52
  have hyf : 0 < M.1 121 1 := by rw [a4]; exact yr_pos y2 y52
  obtain ⟨e0, e1, hR⟩ := sim_film (x := a) (z := b) (v := c) (l := d) (a := e) (k := (sFm M g a b c d e).1.1 122) h
  exact ⟨(sFm M g a b c d e).1, _, (sFm M g a b c d e).2, hR, fun Q hQ => c_X6_film a1 h6 hy1 (sh_len h.2.2.1) hQ, fun Q hQ => CT_cg (rLI_id (sFm M g a b c d e).1) (c_X7_film (by rw [e1]; exact a2) h6 (by rw [e1]; exact hyf) (by rw [e1]; exact sh_sz h.2.2.1) (by rw [← e0]; exact hQ))⟩
theorem pr_seen {a b c d e f : Int32} (h : REL M) : P2 κ 5 4 mX6_seen mX7_seen [.int a, .int b, .int c, .int d, .int e, .int f] M := by
  obtain ⟨g, y, o, u, L, h⟩ := h
  obtain ⟨⟨h6, y2, y52, o8, u8⟩, ⟨a1, a2, a3, a4, a5, a6⟩, hk, ⟨s1, s2, s3, s4, s5, s7, s8, ⟨ww, w9, hw3⟩, s10⟩, ⟨p1, p2, p3⟩, hu⟩ := h.1
  have hy1 : 0 < M.1 1 3 := by rw [show M.1 1 3 = nI y from a3]; exact yr_pos y2 y52
  have hyf : 0 < M.1 121 1 := by rw [a4]; exact yr_pos y2 y52
  have e0 := sim_seen (x := a) (v := b) (l := c) (a := d) (b := e) (wh := f) (k := M.1 122) h
  have hR : REL (rI (rL M 128 (M.2 128)) 122 (tSn M (M.2 128) (M.1 122) g a b c d e f).1) := by
    rw [rL_id]
    exact rel_122 h
  refine ⟨M, rI (rL M 128 (M.2 128)) 122 (tSn M (M.2 128) (M.1 122) g a b c d e f).1, sSn M g a b c d e f, hR, fun Q hQ => c_X6_seen a1 h6 hy1 (sh_len h.2.2.1) hQ, fun Q hQ => CT_cg (rLI_id M) (c_X7_seen a2 h6 a4 (by omega) (by omega) hw3 (by omega) (sh_sz h.2.2.1) (by rw [← e0]; exact hQ))⟩
end PRS
