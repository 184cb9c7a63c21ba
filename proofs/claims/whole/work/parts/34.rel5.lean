/-! deeds -/
def Fr (M M' : MM) : Prop := (∀ a, a < 1 ∨ 50 < a → M'.1 a = M.1 a) ∧ M'.2 = M.2
theorem fr_rf (M : MM) : Fr M M := ⟨fun _ _ => rfl, rfl⟩
theorem fr_tr {A B C : MM} (h : Fr A B) (h2 : Fr B C) : Fr A C := ⟨fun a ha => (h2.1 a ha).trans (h.1 a ha), h2.2.trans h.2⟩
theorem fr_s {M M' : MM} {k j : Nat} {v : Int32} (hk : 1 ≤ k ∧ k ≤ 50) (h : Fr M M') : Fr M (sI M' k j v) := ⟨fun a ha => (sI_out (by omega)).trans (h.1 a ha), h.2⟩
theorem adS_2 {M : MM} {o u : Nat} : (adS o u M).2 = M.2 := by
  unfold adS
  split <;> rfl
theorem fr_ad {M : MM} {o u : Nat} : Fr M (adS o u M) := ⟨fun a ha => adS_lo (by omega) (by omega), adS_2⟩
theorem rel_dof {M M1 : MM} {F' : Nat → Int32} {g y o u L g' y' o' u' : Nat} (h : Rel M g y o u L) (e : Fr M M1) (hs : SR M1 1 F' g' y' o' u') : M1.1 121 = M.1 121 ∧ REL (rI M1 121 F') := ⟨e.1 _ (by decide), rel_do h e.1 e.2 hs⟩
theorem sg_c {M : MM} {F : Nat → Int32} {g : Nat} {wk v : Int32} {w : Nat} (h6 : g ≤ 6) (hw : w + 1 < g) (hv : bd v 19) (h : SG M 4 g F 16 wk) : SG (sI M 5 w v) 4 g (upd F (22 + w) v) 16 wk := by
  obtain ⟨s1, s2, s3, s4, s5, s7, s8, s9, s10⟩ := h
  refine ⟨fun i hi => ?_, fun i hi => ?_, fun i hi hgi => ?_, fun i hi hgi => ?_, fun i hi => ?_, ?_, ?_, s9, ?_⟩
  · have hh := s1 i hi
    rw [show (4 : Nat) + 1 = 5 from rfl, show (4 : Nat) + 2 = 6 from rfl, show (4 : Nat) + 3 = 7 from rfl] at hh ⊢
    by_cases e : i = w
    · subst e
      rw [sI_same, sI_out (by decide), sI_out (by decide), show upd F (22 + i) v (16 + (11 + i)) = F (16 + (11 + i)) from upd_o (by omega), show upd F (22 + i) v (16 + (16 + i)) = F (16 + (16 + i)) from upd_o (by omega), show 16 + (6 + i) = 22 + i from by omega, pk_us]
      exact ⟨rfl, hh.2.1, hh.2.2⟩
    · rw [sI_oth e, sI_out (by decide), sI_out (by decide), upd_o (by omega), upd_o (by omega), upd_o (by omega)]
      exact hh
  · rw [sI_out (by decide), upd_o (by omega)]
    exact s2 i hi
  · rw [upd_o (by omega), upd_o (by omega), upd_o (by omega)]
    exact s3 i hi hgi
  · rw [upd_o (by omega)]
    exact s4 i hi hgi
  · by_cases e : i = w
    · subst e
      have hh := s5 i hi
      rw [show upd F (22 + i) v (16 + (11 + i)) = F (16 + (11 + i)) from upd_o (by omega), show 16 + (6 + i) = 22 + i from by omega, pk_us]
      exact ⟨hv, hh.2⟩
    · rw [upd_o (by omega), upd_o (by omega)]
      exact s5 i hi
  · rw [sI_out (by decide)]
    exact s7
  · rw [sI_out (by decide), upd_o (by omega)]
    exact s8
  · rw [upd_o (by omega)]
    exact s10
theorem sr_c {M : MM} {F : Nat → Int32} {g y o u : Nat} {v : Int32} {w : Nat} (hw : w + 1 < g) (hv : bd v 19) (h : SR M 1 F g y o u) : SR (sI M 5 w v) 1 (upd F (22 + w) v) g y o u := by
  have h6 := h.1.1
  refine sr_st h (fun q hq => sI_out (by omega)) (fun j hj => upd_o (by omega)) ?_
  rw [upd_o (by omega)]
  exact sg_c h6 hw hv h.2.2.2.1
theorem sg_q {M : MM} {F : Nat → Int32} {g : Nat} {wk v : Int32} {w : Nat} (h6 : g ≤ 6) (hw : w + 1 < g) (hv : bd v 99) (h : SG M 4 g F 16 wk) : SG (sI M 6 w v) 4 g (upd F (27 + w) v) 16 wk := by
  obtain ⟨s1, s2, s3, s4, s5, s7, s8, s9, s10⟩ := h
  refine ⟨fun i hi => ?_, fun i hi => ?_, fun i hi hgi => ?_, fun i hi hgi => ?_, fun i hi => ?_, ?_, ?_, s9, ?_⟩
  · have hh := s1 i hi
    rw [show (4 : Nat) + 1 = 5 from rfl, show (4 : Nat) + 2 = 6 from rfl, show (4 : Nat) + 3 = 7 from rfl] at hh ⊢
    by_cases e : i = w
    · subst e
      rw [sI_out (by decide), sI_same, sI_out (by decide), show upd F (27 + i) v (16 + (6 + i)) = F (16 + (6 + i)) from upd_o (by omega), show upd F (27 + i) v (16 + (16 + i)) = F (16 + (16 + i)) from upd_o (by omega), show 16 + (11 + i) = 27 + i from by omega, pk_us]
      exact ⟨hh.1, rfl, hh.2.2⟩
    · rw [sI_out (by decide), sI_oth e, sI_out (by decide), upd_o (by omega), upd_o (by omega), upd_o (by omega)]
      exact hh
  · rw [sI_out (by decide), upd_o (by omega)]
    exact s2 i hi
  · rw [upd_o (by omega), upd_o (by omega), upd_o (by omega)]
    exact s3 i hi hgi
  · rw [upd_o (by omega)]
    exact s4 i hi hgi
  · by_cases e : i = w
    · subst e
      have hh := s5 i hi
      rw [show upd F (27 + i) v (16 + (6 + i)) = F (16 + (6 + i)) from upd_o (by omega), show 16 + (11 + i) = 27 + i from by omega, pk_us]
      exact ⟨hh.1, hv⟩
    · rw [upd_o (by omega), upd_o (by omega)]
      exact s5 i hi
  · rw [sI_out (by decide)]
    exact s7
  · rw [sI_out (by decide), upd_o (by omega)]
    exact s8
  · rw [upd_o (by omega)]
    exact s10
theorem sr_q {M : MM} {F : Nat → Int32} {g y o u : Nat} {v : Int32} {w : Nat} (hw : w + 1 < g) (hv : bd v 99) (h : SR M 1 F g y o u) : SR (sI M 6 w v) 1 (upd F (27 + w) v) g y o u := by
  have h6 := h.1.1
  refine sr_st h (fun q hq => sI_out (by omega)) (fun j hj => upd_o (by omega)) ?_
  rw [upd_o (by omega)]
  exact sg_q h6 hw hv h.2.2.2.1
theorem sg_a {M : MM} {F : Nat → Int32} {g : Nat} {wk v : Int32} {w : Nat} {a : Int32} (h6 : g ≤ 6) (hw : w + 1 < g) (hv : AP a v) (h : SG M 4 g F 16 wk) : SG (sI M 7 w a) 4 g (upd F (32 + w) v) 16 wk := by
  obtain ⟨s1, s2, s3, s4, s5, s7, s8, s9, s10⟩ := h
  refine ⟨fun i hi => ?_, fun i hi => ?_, fun i hi hgi => ?_, fun i hi hgi => ?_, fun i hi => ?_, ?_, ?_, s9, ?_⟩
  · have hh := s1 i hi
    rw [show (4 : Nat) + 1 = 5 from rfl, show (4 : Nat) + 2 = 6 from rfl, show (4 : Nat) + 3 = 7 from rfl] at hh ⊢
    by_cases e : i = w
    · subst e
      rw [sI_out (by decide), sI_out (by decide), sI_same, show upd F (32 + i) v (16 + (6 + i)) = F (16 + (6 + i)) from upd_o (by omega), show upd F (32 + i) v (16 + (11 + i)) = F (16 + (11 + i)) from upd_o (by omega), show 16 + (16 + i) = 32 + i from by omega, pk_us]
      exact ⟨hh.1, hh.2.1, hv⟩
    · rw [sI_out (by decide), sI_out (by decide), sI_oth e, upd_o (by omega), upd_o (by omega), upd_o (by omega)]
      exact hh
  · rw [sI_out (by decide), upd_o (by omega)]
    exact s2 i hi
  · rw [upd_o (by omega), upd_o (by omega), upd_o (by omega)]
    exact s3 i hi hgi
  · rw [upd_o (by omega)]
    exact s4 i hi hgi
  · rw [upd_o (by omega), upd_o (by omega)]
    exact s5 i hi
  · rw [sI_out (by decide)]
    exact s7
  · rw [sI_out (by decide), upd_o (by omega)]
    exact s8
  · rw [upd_o (by omega)]
    exact s10
theorem sr_a {M : MM} {F : Nat → Int32} {g y o u : Nat} {v : Int32} {w : Nat} {a : Int32} (hw : w + 1 < g) (hv : AP a v) (h : SR M 1 F g y o u) : SR (sI M 7 w a) 1 (upd F (32 + w) v) g y o u := by
  have h6 := h.1.1
  refine sr_st h (fun q hq => sI_out (by omega)) (fun j hj => upd_o (by omega)) ?_
  rw [upd_o (by omega)]
  exact sg_a h6 hw hv h.2.2.2.1
theorem sg_p {M : MM} {F : Nat → Int32} {g : Nat} {wk v : Int32} {w : Nat} (h6 : g ≤ 6) (hw : w < g) (h : SG M 4 g F 16 wk) : SG (sI M 8 w v) 4 g (upd F (16 + w) v) 16 wk := by
  obtain ⟨s1, s2, s3, s4, s5, s7, s8, s9, s10⟩ := h
  refine ⟨fun i hi => ?_, fun i hi => ?_, fun i hi hgi => ?_, fun i hi hgi => ?_, fun i hi => ?_, ?_, ?_, s9, ?_⟩
  · rw [sI_out (by decide), sI_out (by decide), sI_out (by decide), upd_o (by omega), upd_o (by omega), upd_o (by omega)]
    exact s1 i hi
  · have hh := s2 i hi
    rw [show (4 : Nat) + 4 = 8 from rfl] at hh ⊢
    by_cases e : i = w
    · subst e
      rw [sI_same, pk_us]
    · rw [sI_oth e, upd_o (by omega)]
      exact hh
  · rw [upd_o (by omega), upd_o (by omega), upd_o (by omega)]
    exact s3 i hi hgi
  · rw [upd_o (by omega)]
    exact s4 i hi hgi
  · rw [upd_o (by omega), upd_o (by omega)]
    exact s5 i hi
  · rw [sI_out (by decide)]
    exact s7
  · rw [sI_out (by decide), upd_o (by omega)]
    exact s8
  · rw [upd_o (by omega)]
    exact s10
theorem sr_p {M : MM} {F : Nat → Int32} {g y o u : Nat} {v : Int32} {w : Nat} (hw : w < g) (h : SR M 1 F g y o u) : SR (sI M 8 w v) 1 (upd F (16 + w) v) g y o u := by
  have h6 := h.1.1
  refine sr_st h (fun q hq => sI_out (by omega)) (fun j hj => upd_o (by omega)) ?_
  rw [upd_o (by omega)]
  exact sg_p h6 hw h.2.2.2.1
theorem sg_s {M : MM} {F : Nat → Int32} {g : Nat} {wk v : Int32}  (h6 : g ≤ 6) (hv : 0 ≤ v) (h : SG M 4 g F 16 wk) : SG (sI M 4 5 v) 4 g (upd F (37) v) 16 wk := by
  obtain ⟨s1, s2, s3, s4, s5, s7, s8, s9, s10⟩ := h
  refine ⟨fun i hi => ?_, fun i hi => ?_, fun i hi hgi => ?_, fun i hi hgi => ?_, fun i hi => ?_, ?_, ?_, s9, ?_⟩
  · rw [sI_out (by decide), sI_out (by decide), sI_out (by decide), upd_o (by omega), upd_o (by omega), upd_o (by omega)]
    exact s1 i hi
  · rw [sI_out (by decide), upd_o (by omega)]
    exact s2 i hi
  · rw [upd_o (by omega), upd_o (by omega), upd_o (by omega)]
    exact s3 i hi hgi
  · rw [upd_o (by omega)]
    exact s4 i hi hgi
  · rw [upd_o (by omega), upd_o (by omega)]
    exact s5 i hi
  · rw [sI_oth (by decide)]
    exact s7
  · rw [sI_same]
    exact (pk_us (f := F) (k := 37) (x := v)).symm
  · rw [show (16 : Nat) + 21 = 37 from rfl, pk_us]
    exact hv
theorem sr_s {M : MM} {F : Nat → Int32} {g y o u : Nat} {v : Int32}  (hv : 0 ≤ v) (h : SR M 1 F g y o u) : SR (sI M 4 5 v) 1 (upd F (37) v) g y o u := by
  have h6 := h.1.1
  refine sr_st h (fun q hq => sI_out (by omega)) (fun j hj => upd_o (by omega)) ?_
  rw [upd_o (by omega)]
  exact sg_s h6 hv h.2.2.2.1
theorem sr_w {M : MM} {F : Nat → Int32} {g y o u : Nat} {v : Int32} (hv : bd v 9999) (h : SR M 1 F g y o u) : SR (sI M 4 4 v) 1 (upd F 3 v) g y o u := by
  have h6 := h.1.1
  refine sr_st h (fun q hq => sI_out (by omega)) (fun j hj => upd_o (by omega)) ?_
  obtain ⟨s1, s2, s3, s4, s5, s7, s8, s9, s10⟩ := h.2.2.2.1
  rw [pk_us]
  refine ⟨fun i hi => ?_, fun i hi => ?_, fun i hi hgi => ?_, fun i hi hgi => ?_, fun i hi => ?_, ?_, ?_, hv, ?_⟩
  · rw [sI_out (by decide), sI_out (by decide), sI_out (by decide), upd_o (by omega), upd_o (by omega), upd_o (by omega)]
    exact s1 i hi
  · rw [sI_out (by decide), upd_o (by omega)]
    exact s2 i hi
  · rw [upd_o (by omega), upd_o (by omega), upd_o (by omega)]
    exact s3 i hi hgi
  · rw [upd_o (by omega)]
    exact s4 i hi hgi
  · rw [upd_o (by omega), upd_o (by omega)]
    exact s5 i hi
  · rw [sI_same]
  · rw [sI_oth (by decide), upd_o (by omega)]
    exact s8
  · rw [upd_o (by omega)]
    exact s10
theorem asQ_bd (x : Int32) : bd (asQ x) 99 := by
  have e0 : (0 : Int32).toInt = 0 := rfl
  have e99 : (99 : Int32).toInt = 99 := rfl
  have key : 0 ≤ (asQ x).toInt ∧ (asQ x).toInt ≤ 99 := by
    unfold asQ
    by_cases h1 : x < 99
    · rw [if_pos h1]
      by_cases h2 : 0 < x
      · rw [if_pos h2]
        rw [i32_lt] at h1 h2
        omega
      · rw [if_neg h2]
        omega
    · rw [if_neg h1, if_pos (by decide)]
      omega
  refine ⟨(asQ x).toInt.toNat, by omega, ?_⟩
  rw [i32_eq, nI_toInt (by omega)]
  omega
theorem bd_div {x : Int32} (h : bd x 99) : bd (x / 5) 19 := by
  obtain ⟨z, hz, rfl⟩ := h
  exact ⟨z / 5, by omega, pk_div (d := 5) (by omega) (by decide) (by decide)⟩
theorem sr_vAll {M : MM} {F : Nat → Int32} {g y o u : Nat} (h : SR M 1 F g y o u) : ∀ n, n + 1 ≤ g → SR (vAll M n) 1 (gwF F n) g y o u ∧ Fr M (vAll M n)
  | 0, _ => ⟨h, fr_rf M⟩
  | n + 1, hn => by
    obtain ⟨ih, hf⟩ := sr_vAll h n (by omega)
    have e1 : (vAll M n).1 6 n = gwF F n (27 + n) := qu_eq ih.2.2.2.1 (by omega)
    have e2 := wkf_eq ih (show n + 1 < g by omega)
    refine ⟨?_, fr_s (by omega) hf⟩
    show SR (sI (vAll M n) 6 n (asQ ((vAll M n).1 6 n + wkl (vAll M n) n ((vAll M n).1 5 n)))) 1 (upd (gwF F n) (27 + n) (asQ (gwF F n (27 + n) + wkf (gwF F n) n))) g y o u
    rw [e1, e2]
    exact sr_q (by omega) (asQ_bd _) ih
theorem sr_ass {M : MM} {F : Nat → Int32} {g y o u w : Nat} (h : SR M 1 F g y o u) (hw : w + 1 < g) : SR (ass M w) 1 (mcF F w) g y o u ∧ Fr M (ass M w) := by
  have h6 := h.1.1
  have hs := h.2.2.2.1
  have e5 := co_eq hs hw
  have e6 := qu_eq hs hw
  have e8 : M.1 8 w = F (16 + w) := hs.2.1 w (by omega)
  have e9 : M.1 8 (w + 1) = F (16 + (w + 1)) := hs.2.1 (w + 1) (by omega)
  have em : mor M w = F (27 + w) / 5 - F (22 + w) := by rw [mor, e5, e6]
  have ec : F (22 + w) + (F (27 + w) / 5 - F (22 + w)) = F (27 + w) / 5 := by
    rw [Int32.add_comm, Int32.sub_add_cancel]
  refine ⟨?_, fr_s (by omega) (fr_s (by omega) (fr_s (by omega) (fr_rf M)))⟩
  have q1 := sr_c (v := F (27 + w) / 5) hw (bd_div (by have := (hs.2.2.2.2.1 w (by omega)).2; rw [show 16 + (11 + w) = 27 + w by omega] at this; exact this)) h
  have q2 := sr_p (v := F (16 + w) + cst (F (27 + w) / 5 - F (22 + w))) (show w < g by omega) q1
  have q3 := sr_p (v := F (16 + (w + 1)) + cst (F (27 + w) / 5 - F (22 + w))) hw q2
  have eM : ass M w = sI (sI (sI M 5 w (F (27 + w) / 5)) 8 w (F (16 + w) + cst (F (27 + w) / 5 - F (22 + w)))) 8 (w + 1) (F (16 + (w + 1)) + cst (F (27 + w) / 5 - F (22 + w))) := by
    unfold ass
    dsimp only
    rw [em, e5, ec, sI_oth (show w + 1 ≠ w by omega), sI_out (by decide), e8, e9]
  have eF : mcF F w = upd (upd (upd F (22 + w) (F (27 + w) / 5)) (16 + w) (F (16 + w) + cst (F (27 + w) / 5 - F (22 + w)))) (16 + (w + 1)) (F (16 + (w + 1)) + cst (F (27 + w) / 5 - F (22 + w))) := by
    unfold mcF
    dsimp only
    funext a
    by_cases c1 : a = 22 + w
    · subst c1
      rw [pk_us, upd_o (by omega), upd_o (by omega), pk_us]
    · rw [upd_o c1]
      by_cases c2 : a = 16 + (w + 1)
      · subst c2
        rw [pk_us]
        show upd _ (16 + (w + 1)) (upd F (16 + w) _ (16 + (w + 1)) + _) (16 + (w + 1)) = _
        rw [pk_us, upd_o (by omega)]
      · rw [upd_o (show a ≠ 16 + w + 1 by omega), upd_o c2]
        by_cases c3 : a = 16 + w
        · subst c3
          rw [pk_us, pk_us]
        · rw [upd_o c3, upd_o c3, upd_o c1]
  rw [eM, eF]
  exact q3
