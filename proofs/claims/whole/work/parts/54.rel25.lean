/-! a street laid out, on both sides -/
theorem setl_fgt (g : Nat) (M : MM) (kq no : Int32) : setl g (fgt M) kq no = setl g M kq no := by
  refine mm_ext (fun a b => ?_) ?_
  · by_cases h9 : a = 9
    · subst h9
      unfold setl
      split
      · by_cases b1 : b = 1
        · subst b1; simp [fgt, sI, upd]
        · by_cases b2 : b = 2
          · subst b2; simp [fgt, sI, upd]
          · simp [fgt, sI, upd, b1, b2]
      · by_cases b1 : b = 1
        · subst b1; simp [fgt, clr, sI, upd]
        · by_cases b2 : b = 2
          · subst b2; simp [fgt, clr, sI, upd]
          · simp [fgt, clr, sI, upd, b1, b2]
    · unfold setl
      split
      · simp [fgt, sI, h9]
      · simp [fgt, clr, sI, h9]
  · unfold setl
    split <;> rfl
theorem ly1_fgt (A : MM) : ∀ j, ly1 A (j + 1) = ly1 (fgt A) (j + 1)
  | 0 => by
    show setl 0 A (A.1 108 0) (A.1 109 0) = setl 0 (fgt A) ((fgt A).1 108 0) ((fgt A).1 109 0)
    rw [setl_fgt]
    rfl
  | j + 1 => by
    show setl (j + 1) (ly1 A (j + 1)) ((ly1 A (j + 1)).1 108 (j + 1)) ((ly1 A (j + 1)).1 109 (j + 1)) = setl (j + 1) (ly1 (fgt A) (j + 1)) ((ly1 (fgt A) (j + 1)).1 108 (j + 1)) ((ly1 (fgt A) (j + 1)).1 109 (j + 1))
    rw [ly1_fgt A j]
theorem ly1_2 (A : MM) : ∀ j, (ly1 A j).2 = A.2
  | 0 => rfl
  | j + 1 => setl_2.trans (ly1_2 A j)
theorem ly2_2 (A : MM) : ∀ j, (ly2 A j).2 = A.2
  | 0 => rfl
  | j + 1 => ly2_2 A j
theorem ly1_out (A : MM) {a : Nat} (h : a < 1 ∨ 50 < a) : ∀ j, (ly1 A j).1 a = A.1 a
  | 0 => rfl
  | j + 1 => (setl_out h).trans (ly1_out A h j)
def eD (d D1 : Nat → Int32) (j q a : Nat) : Int32 := if a = 0 then nI j else if (4 ≤ a ∧ a < 4 + j) ∨ (10 ≤ a ∧ a < 10 + j) ∨ (27 ≤ a ∧ a < 27 + q) then d a else D1 a
theorem eD_in {d D1 : Nat → Int32} {j q a : Nat} (h0 : a ≠ 0) (h : (4 ≤ a ∧ a < 4 + j) ∨ (10 ≤ a ∧ a < 10 + j) ∨ (27 ≤ a ∧ a < 27 + q)) : eD d D1 j q a = d a := by
  rw [eD, if_neg h0, if_pos h]
theorem eD_out {d D1 : Nat → Int32} {j q a : Nat} (h0 : a ≠ 0) (h : ¬ ((4 ≤ a ∧ a < 4 + j) ∨ (10 ≤ a ∧ a < 10 + j) ∨ (27 ≤ a ∧ a < 27 + q))) : eD d D1 j q a = D1 a := by
  rw [eD, if_neg h0, if_neg h]
theorem sr_ly1 {A : MM} {d D1 : Nat → Int32} {t yy : Nat} (h6 : t ≤ 6) (h38 : D1 38 = 0) (h0 : D1 0 = 0) (hA : SR A 1 D1 0 yy 0 0) (hd : ∀ i, i < t → A.1 108 i = d (4 + i) ∧ A.1 109 i = d (10 + i) ∧ bd (d (4 + i)) 4 ∧ bd (d (10 + i)) 9) : ∀ j, j ≤ t → SR (ly1 A j) 1 (eD d D1 j 0) j yy 0 0
  | 0, _ => sr_fr (fun _ _ _ => rfl) (fun a ha => by
      by_cases e0 : a = 0
      · subst e0; rw [eD, if_pos rfl, h0]; rfl
      · exact eD_out e0 (by omega)) hA
  | j + 1, hj => by
    have ih := sr_ly1 h6 h38 h0 hA hd j (by omega)
    obtain ⟨q1, q2, q3, q4⟩ := hd j (by omega)
    have hs := sr_setl (kq := d (4 + j)) (no := d (10 + j)) (by omega) q3 q4 ih
    have e : ly1 A (j + 1) = setl j (ly1 A j) (d (4 + j)) (d (10 + j)) := by
      rw [ly1, ly1_out A (by omega), ly1_out A (by omega), q1, q2]
    rw [e]
    refine sr_fr (fun _ _ _ => rfl) (fun a ha => ?_) hs
    by_cases e0 : a = 0
    · subst e0
      rw [tGdF, upd_o (by decide), pk_us, nI_1]
      rfl
    · by_cases e38 : a = 38
      · subst e38
        rw [tGdF, pk_us, eD_out e0 (by omega), h38]
      · by_cases ek : a = 4 + j
        · subst ek
          rw [tGdF, upd_o e38, upd_o e0, upd_o (by omega), pk_us, eD_in e0 (by omega)]
        · by_cases en : a = 10 + j
          · subst en
            rw [tGdF, upd_o e38, upd_o e0, pk_us, eD_in e0 (by omega)]
          · rw [tGdF, upd_o e38, upd_o e0, upd_o en, upd_o ek]
            by_cases c : (4 ≤ a ∧ a < 4 + j) ∨ (10 ≤ a ∧ a < 10 + j) ∨ (27 ≤ a ∧ a < 27 + 0)
            · rw [eD_in e0 c, eD_in e0 (by omega)]
            · rw [eD_out e0 c, eD_out e0 (by omega)]
theorem sr_ly2 {B : MM} {d D1 : Nat → Int32} {t yy : Nat} (h6 : t ≤ 6) (hB : SR B 1 (eD d D1 t 0) t yy 0 0) (hd : ∀ i, i < t - 1 → B.1 110 i = d (27 + i) ∧ bd (d (27 + i)) 99) : ∀ j, j ≤ t - 1 → SR (ly2 B j) 1 (eD d D1 t j) t yy 0 0
  | 0, _ => hB
  | j + 1, hj => by
    have ih := sr_ly2 h6 hB hd j (by omega)
    obtain ⟨q1, q2⟩ := hd j (by omega)
    have hs := sr_q (w := j) (v := d (27 + j)) (by omega) q2 ih
    have e : ly2 B (j + 1) = sI (ly2 B j) 6 j (d (27 + j)) := by
      rw [ly2, ly2_fr B (by decide), q1]
    rw [e]
    refine sr_fr (fun _ _ _ => rfl) (fun a ha => ?_) hs
    by_cases e0 : a = 0
    · subst e0
      rw [upd_o (by omega)]
      rfl
    · by_cases ek : a = 27 + j
      · subst ek
        rw [pk_us, eD_in e0 (by omega)]
      · rw [upd_o ek]
        by_cases c : (4 ≤ a ∧ a < 4 + t) ∨ (10 ≤ a ∧ a < 10 + t) ∨ (27 ≤ a ∧ a < 27 + j)
        · rw [eD_in e0 c, eD_in e0 (by omega)]
        · rw [eD_out e0 c, eD_out e0 (by omega)]
theorem tS0_eq {A B : MM} {L : Nat} {k : Nat → Int32} (ht : tRd A L k = tRd B L k) (h120 : A.1 120 = B.1 120) {a : Nat} (ha : A.1 a = B.1 a) : (tS0 A L k).1 a = (tS0 B L k).1 a := by
  unfold tS0 rS
  rw [ht]
  by_cases e : a = 120
  · subst e
    simp [rI, sI, h120]
  · simp [rI, sI, e, ha]
theorem tS0_fr (A : MM) (L : Nat) (k : Nat → Int32) {a : Nat} (h1 : a ≠ 120) (h2 : a ≠ 123) : (tS0 A L k).1 a = A.1 a := by
  simp [tS0, rS, rI, sI, h1, h2]
theorem tS0_4 (A : MM) (L : Nat) (k : Nat → Int32) : (tS0 A L k).1 120 4 = A.1 120 4 := by
  simp [tS0, rS, rI, sI, upd]
theorem tS0_6 (A : MM) (L : Nat) (k : Nat → Int32) : (tS0 A L k).1 120 6 = 0 := sI_same _ _ _ _
theorem tRd_cg {A B : MM} {L : Nat} {k : Nat → Int32} (h0 : A.1 120 = B.1 120) (h1 : A.1 121 = B.1 121) (h5 : A.1 125 = B.1 125) : tRd A L k = tRd B L k := by
  unfold tRd rdY rdD
  rw [h0, h1, h5]
theorem rel_t0 {M : MM} {g y o u L : Nat} {k : Nat → Int32} (h : Rel M g y o u L) (hf : FRt M (prs M L).1) : REL (tS0 (sS1 M L) L k) := by
  have e : ∀ a, a ≠ 120 → a ≠ 123 → a ≠ 106 → a ≠ 108 → a ≠ 109 → a ≠ 110 → (tS0 (sS1 M L) L k).1 a = M.1 a := fun a h1 h2 h3 h4 h5 h6 => by
    rw [tS0_fr _ _ _ h1 h2, sS1, sI_out h3]
    exact hf.1 a h3 h4 h5 h6
  have e0 : (sS1 M L).1 120 = M.1 120 := by
    rw [sS1, sI_out (by decide)]
    exact hf.1 120 (by decide) (by decide) (by decide) (by decide)
  refine rel_ts (L' := 0) h (fun a ha => e a (by omega) (by omega) (by omega) (by omega) (by omega) (by omega)) (e _ (by decide) (by decide) (by decide) (by decide) (by decide) (by decide)) (e _ (by decide) (by decide) (by decide) (by decide) (by decide) (by decide)) (by rw [tS0_4, e0]) ⟨by omega, ?_, tS0_6 _ _ _, fun i hi => absurd hi (by omega)⟩ (fun s hs => shr_fr (M := M) hs (fun a h1 h2 => e a (by omega) (by omega) (by omega) (by omega) (by omega) (by omega)) (e _ (by decide) (by decide) (by decide) (by decide) (by decide) (by decide)) (e _ (by decide) (by decide) (by decide) (by decide) (by decide) (by decide)) hf.2 (h.2.2.1 s hs))
  rw [tS0_fr _ _ _ (by decide) (by decide), sS1, sI_same]
  rfl
theorem neg_le : ∀ z : Nat, z < 1001 → -20 - nI z ≤ 0 := by decide +kernel
theorem bg_vals : ∀ i, i < 5 → (if wi (nI (16 + (6 + i))) 32 36 = 0 then (0 : Int32) else -99) = 0 ∧ (if wi (nI (16 + (11 + i))) 32 36 = 0 then (0 : Int32) else -99) = 0 ∧ (if wi (nI (16 + (16 + i))) 32 36 = 0 then (0 : Int32) else -99) = -99 := by decide +kernel
theorem bg_vals2 : ∀ i, i < 6 → (if wi (nI (16 + i)) 32 36 = 0 then (0 : Int32) else -99) = 0 := by decide +kernel
theorem sr_beg {A : MM} {k : Nat → Int32} {yy : Nat} {ea dr : Int32} (hy : 2 ≤ yy ∧ yy ≤ 52) (a12 : A.1 1 2 = 0) (a13 : A.1 1 3 = nI yy) (a14 : A.1 1 4 = ea) (hea : bd ea 9) (a44 : A.1 4 4 = 0) (a45 : A.1 4 5 = dr) (hdr : 0 ≤ dr) (a91 : A.1 9 1 = 0) (a92 : A.1 9 2 = 0) : SR A 1 (upd (bgF k 0 ea dr) 1 (nI yy)) 0 yy 0 0 := by
  have v : ∀ a, a < 223 → a ≠ 1 → a ≠ 2 → a ≠ 37 → upd (bgF k 0 ea dr) 1 (nI yy) a = if wi (nI a) 32 36 = 0 then 0 else -99 := fun a h h1 h2 h3 => by rw [upd_o h1, bgF_v h h1 h2 h3]
  have v2 : upd (bgF k 0 ea dr) 1 (nI yy) 2 = ea := by rw [upd_o (by decide), bgF, upd_o (by decide), pk_us]
  have v37 : upd (bgF k 0 ea dr) 1 (nI yy) 37 = dr := by rw [upd_o (by decide), bgF, pk_us]
  have v0 : upd (bgF k 0 ea dr) 1 (nI yy) 0 = 0 := by rw [v 0 (by decide) (by decide) (by decide) (by decide)]; decide
  have v3 : upd (bgF k 0 ea dr) 1 (nI yy) 3 = 0 := by rw [v 3 (by decide) (by decide) (by decide) (by decide)]; decide
  have v38 : upd (bgF k 0 ea dr) 1 (nI yy) 38 = 0 := by rw [v 38 (by decide) (by decide) (by decide) (by decide)]; decide
  refine ⟨⟨by omega, hy.1, hy.2, by omega, by omega⟩, ⟨a12, v0, a13, pk_us, a14.trans v2.symm, by rw [v2]; exact hea⟩, fun i hi => absurd hi (by omega), ⟨fun i hi => absurd hi (by omega), fun i hi => absurd hi (by omega), fun i hi _ => ?_, fun i hi _ => ?_, fun i hi => ?_, a44.trans v3.symm, a45.trans v37.symm, ?_, ?_⟩, ⟨a91, a92, v38⟩, fun i hi => absurd hi (by omega)⟩
  · obtain ⟨q1, q2, q3⟩ := bg_vals i hi
    rw [v _ (by omega) (by omega) (by omega) (by omega), v _ (by omega) (by omega) (by omega) (by omega), v _ (by omega) (by omega) (by omega) (by omega)]
    exact ⟨q1, q2, q3⟩
  · rw [v _ (by omega) (by omega) (by omega) (by omega)]
    exact bg_vals2 i hi
  · obtain ⟨q1, q2, q3⟩ := bg_vals i hi
    rw [v _ (by omega) (by omega) (by omega) (by omega), v _ (by omega) (by omega) (by omega) (by omega), q1, q2]
    exact ⟨⟨0, by omega, rfl⟩, ⟨0, by omega, rfl⟩⟩
  · rw [v3]; exact ⟨0, by omega, rfl⟩
  · show 0 ≤ upd (bgF k 0 ea dr) 1 (nI yy) 37
    rw [v37]; exact hdr
