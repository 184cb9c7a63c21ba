/-! settles -/
theorem grw_cg {M M' : MM} {w : Nat} {q c t : Int32} (e1 : M'.1 1 = M.1 1) (e2 : M'.1 2 = M.1 2) (e3 : M'.1 3 = M.1 3) : grw M' w q c t = grw M w q c t := by
  unfold grw wkl
  rw [e1, e2, e3]
theorem mcs_o {P : MM} {t : Int32} {a : Nat} (h1 : a ≠ 102) (h2 : a ≠ 103) : ∀ n, (mcs P t n).1.1 a = P.1 a
  | 0 => rfl
  | n + 1 => by
    show (sI (mc1 (mcs P t n).1 t n) 102 n _).1 a = P.1 a
    rw [sI_out h1, mc1, sI_out h2]
    exact mcs_o h1 h2 n
theorem mcs_2 {P : MM} {t : Int32} : ∀ n, (mcs P t n).1.2 = P.2
  | 0 => rfl
  | n + 1 => mcs_2 (P := P) (t := t) n
theorem mcs_hi {P : MM} {t : Int32} {w : Nat} : ∀ n, n ≤ w → (mcs P t n).1.1 102 w = P.1 102 w ∧ (mcs P t n).1.1 103 w = P.1 103 w
  | 0, _ => ⟨rfl, rfl⟩
  | n + 1, hn => by
    obtain ⟨i1, i2⟩ := mcs_hi (P := P) (t := t) n (show n ≤ w by omega)
    have e1 : (mcs P t (n + 1)).1 = sI (mc1 (mcs P t n).1 t n) 102 n ((mc1 (mcs P t n).1 t n).1 103 n / 5) := rfl
    rw [e1, sI_oth (show w ≠ n by omega), sI_out (show (103 : Nat) ≠ 102 by decide), mc1, sI_out (show (102 : Nat) ≠ 103 by decide), sI_oth (show w ≠ n by omega)]
    exact ⟨i1, i2⟩
theorem mcs_at {P : MM} {t : Int32} {w : Nat} : ∀ n, w < n → (mcs P t n).1.1 103 w = grw P w (P.1 103 w) (P.1 102 w) t ∧ (mcs P t n).1.1 102 w = grw P w (P.1 103 w) (P.1 102 w) t / 5
  | 0, h => absurd h (by omega)
  | n + 1, h => by
    have e1 : (mcs P t (n + 1)).1 = sI (mc1 (mcs P t n).1 t n) 102 n ((mc1 (mcs P t n).1 t n).1 103 n / 5) := rfl
    by_cases e : w = n
    · subst e
      obtain ⟨i1, i2⟩ := mcs_hi (P := P) (t := t) w (Nat.le_refl w)
      have e2 : (mc1 (mcs P t w).1 t w).1 103 w = grw P w (P.1 103 w) (P.1 102 w) t := by
        rw [mc1, sI_same, i1, i2]
        exact grw_cg (mcs_o (by decide) (by decide) w) (mcs_o (by decide) (by decide) w) (mcs_o (by decide) (by decide) w)
      rw [e1, sI_out (show (103 : Nat) ≠ 102 by decide), sI_same, e2]
      exact ⟨rfl, rfl⟩
    · rw [e1, sI_oth e, sI_out (show (103 : Nat) ≠ 102 by decide), mc1, sI_out (show (102 : Nat) ≠ 103 by decide), sI_oth e]
      exact mcs_at n (by omega)
theorem sub0 (x z : Int32) : (x - z = 0) ↔ (x = z) := by
  constructor
  · intro h
    have := Int32.sub_add_cancel x z
    rw [h, Int32.zero_add] at this
    exact this.symm
  · intro h
    rw [h, Int32.sub_self]
theorem mcs_fl {P : MM} {t : Int32} {h : Nat → Int32} {m : Nat} (hm : m ≤ 5) (e : ∀ w, w < m → h (27 + w) = grw P w (P.1 103 w) (P.1 102 w) t ∧ h (22 + w) = P.1 102 w) : ∀ n, n ≤ m → (mcs P t n).2 = (mch h n).2
  | 0, _ => rfl
  | n + 1, hn => by
    have ih := mcs_fl hm e n (by omega)
    obtain ⟨e1, e2⟩ := e n (by omega)
    obtain ⟨i1, i2⟩ := mcs_hi (P := P) (t := t) n (Nat.le_refl n)
    have c1 : (mc1 (mcs P t n).1 t n).1 103 n = h (27 + n) := by
      rw [mc1, sI_same, i1, i2, e1]
      exact grw_cg (mcs_o (by decide) (by decide) n) (mcs_o (by decide) (by decide) n) (mcs_o (by decide) (by decide) n)
    have c2 : (mc1 (mcs P t n).1 t n).1 102 n = h (22 + n) := by
      rw [mc1, sI_out (by decide), i1, e2]
    show (if (mcs P t n).2 = 0 then (if (mc1 (mcs P t n).1 t n).1 103 n / 5 = (mc1 (mcs P t n).1 t n).1 102 n then 0 else 1) else 1) = (if (mch h n).2 = 0 then (if (mch h n).1 (27 + n) / 5 - (mch h n).1 (22 + n) = 0 then 0 else 1) else 1)
    rw [ih, c1, c2, mch_27 h (by omega) n (by omega), mch_hi h n (by omega) (by omega)]
    by_cases q : h (27 + n) / 5 = h (22 + n)
    · rw [if_pos q, if_pos ((sub0 _ _).mpr q)]
    · rw [if_neg q, if_neg (fun r => q ((sub0 _ _).mp r))]
theorem set_eq {M : MM} {F : Nat → Int32} {g y o u : Nat} (h : SR M 1 F g y o u) : ∀ n j (P : MM) (H : Nat → Int32) (ww : Nat), ww + 100 * n ≤ 15000 → (∀ a, a < 101 → P.1 a = M.1 a) → (∀ a, a ≠ 3 → a < 16 → H a = F a) → H 3 = nI ww →
    (∀ w, w + 1 < g → P.1 102 w = H (22 + w) ∧ P.1 103 w = H (27 + w) ∧ bd (H (22 + w)) 19 ∧ bd (H (27 + w)) 99) →
    (cmh g n P (nI (y - ww % y)) j).2 = (stl g n j H).2 ∧ (∀ a, a ≠ 102 → a ≠ 103 → (cmh g n P (nI (y - ww % y)) j).1.1 a = P.1 a) ∧ (cmh g n P (nI (y - ww % y)) j).1.2 = P.2 := by
  have h6 := h.1.1
  have y2 := h.1.2.1
  have y5 := h.1.2.2.1
  intro n
  induction n with
  | zero => intro j P H ww _ _ _ _ _; exact ⟨rfl, fun _ _ _ => rfl, rfl⟩
  | succ n ih =>
    intro j P H ww hb eP eH e3 hr
    have hml := Nat.mod_lt ww (show 0 < y by omega)
    have e1 : H 1 = nI y := (eH 1 (by decide) (by decide)).trans h.2.1.2.2.2.1
    have hcl : cl (utl H - 1) = y - ww % y - 1 := by
      rw [show utl H - 1 = nI (y - ww % y - 1) from utl_P e1 e3 (by omega) (by omega) (by omega)]
      exact cl_nI (by omega)
    have egs : ∀ w, w + 1 < g → grw P w (P.1 103 w) (P.1 102 w) (nI (y - ww % y)) = goN g (y - ww % y) H (27 + w) ∧ goN g (y - ww % y) H (22 + w) = goN g (y - ww % y) H (27 + w) / 5 ∧ goN g (y - ww % y - 1) H (22 + w) = H (22 + w) := by
      intro w hw
      obtain ⟨r1, r2, r3, r4⟩ := hr w hw
      have wb : WB H w := wb_cg (by omega) eH (wb_of h hw)
      obtain ⟨k1, k2⟩ := go_in (h := H) h6 hw e1 e3 y2 (by omega) (by omega) wb r4 r3 (y - ww % y) (by omega)
      obtain ⟨_, k4⟩ := go_in (h := H) h6 hw e1 e3 y2 (by omega) (by omega) wb r4 r3 (y - ww % y - 1) (by omega)
      rw [if_pos rfl] at k2
      rw [if_neg (by omega)] at k4
      refine ⟨?_, by rw [k1, k2], k4⟩
      rw [k1, grw_cg (M := M) (eP 1 (by decide)) (eP 2 (by decide)) (eP 3 (by decide)), grw_eq h hw, r1, r2, gd_cg (f := H) (h := F) (by omega) eH]
    have egN : (gosF g (goN g (y - ww % y - 1) H)).1 = goN g (y - ww % y) H := by
      rw [← goN_succ, show y - ww % y - 1 + 1 = y - ww % y by omega]
    have f3 : goN g (y - ww % y - 1) H 3 = nI (ww + (y - ww % y - 1)) := goN_3 g h6 _ _ ww e3
    have f1 : goN g (y - ww % y - 1) H 1 = nI y := (goN_fr g h6 (by decide) (by decide) _ _).trans e1
    have er : rem (gw3 (goN g (y - ww % y - 1) H) g 3) (gw3 (goN g (y - ww % y - 1) H) g 1) = 0 := by
      rw [gw3, pk_us, upd_o (by decide), gwF_lo _ (by decide), gwF_lo _ (by decide), f1, f3, nI_1]
      refine (pk_rem (by omega) (by omega) (by omega)).trans ?_
      rw [show ww + (y - ww % y - 1) + 1 = ww + (y - ww % y) by omega, mod_full (by omega)]
      rfl
    have eg2 : gosF g (goN g (y - ww % y - 1) H) = mch (gw3 (goN g (y - ww % y - 1) H) g) (g - 1) := if_pos er
    have efl : (mcs P (nI (y - ww % y)) (g - 1)).2 = (gosF g (goN g (y - ww % y - 1) H)).2 := by
      rw [eg2]
      refine mcs_fl (m := g - 1) (by omega) (fun w hw => ?_) (g - 1) (Nat.le_refl _)
      obtain ⟨s1, s2, s3⟩ := egs w (by omega)
      refine ⟨?_, ?_⟩
      · rw [s1, ← egN, eg2, mch_27 _ (by omega) _ (by omega)]
      · rw [gw3, upd_o (by omega), gwF_lo _ (by omega), s3, (hr w (by omega)).1]
    rw [cmh, stl, hcl, efl]
    by_cases q : (gosF g (goN g (y - ww % y - 1) H)).2 = 0
    · rw [if_pos q, if_neg (fun r => r q)]
      exact ⟨rfl, fun a a1 a2 => mcs_o a1 a2 _, mcs_2 _⟩
    · rw [if_neg q, if_pos q, egN, show P.1 1 3 = nI y from by rw [eP 1 (by decide)]; exact h.2.1.2.2.1]
      have hh := ih (j + 1) (mcs P (nI (y - ww % y)) (g - 1)).1 (goN g (y - ww % y) H) (ww + (y - ww % y)) (by omega) (fun a ha => (mcs_o (by omega) (by omega) _).trans (eP a ha)) (fun a q1 q2 => (goN_fr g h6 q1 (by omega) _ _).trans (eH a q1 q2)) (goN_3 g h6 _ _ ww e3) (fun w hw => by
        obtain ⟨s1, s2, s3⟩ := egs w hw
        obtain ⟨m1, m2⟩ := mcs_at (P := P) (t := nI (y - ww % y)) (w := w) (g - 1) (by omega)
        have hb2 : bd (goN g (y - ww % y) H (27 + w)) 99 := by rw [← s1]; exact asQ_bd _
        rw [m1, m2, s2, s1]
        exact ⟨rfl, rfl, bd_div hb2, hb2⟩)
      rw [mod_full (by omega), Nat.sub_zero] at hh
      exact ⟨hh.1, fun a a1 a2 => (hh.2.1 a a1 a2).trans (mcs_o a1 a2 _), hh.2.2.trans (mcs_2 _)⟩
