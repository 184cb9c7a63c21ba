/-! the reference: apologies foretold -/
def btF : Nat → Int32 → Int32 → Int32
  | 0, _, c => c
  | n + 1, x, c => if x = 0 then c else btF n (x &&& (x - 1)) (c + 1)
def btZ : Nat → Int32 → Bool
  | 0, x => decide (x = 0)
  | n + 1, x => if x = 0 then true else btZ n (x &&& (x - 1))
set_option maxRecDepth 100000 in
set_option maxHeartbeats 4000000 in
theorem l_X7_bits {κ : KX} {M : MM} {Q : Option Value → va_W → Prop} {z : Int32} : ∀ n x c, btZ n x = true → Q (some (.int (btF n x c))) (wM κ M) → WP κ (0, 0, 0) mX7_bits 4 [some (.int z), some (.int c), some (.int x)] [] (wM κ M) (0, 0) Q := by
  intro n
  induction n with
  | zero =>
    intro x c hz0 hQ
    have hx0 : x = 0 := of_decide_eq_true hz0
    refine wp_iload_2 dX7_bits_4 ?_
    refine wp_if_eq (tgt := 20) dX7_bits_5 rfl (fun c5 => ?_) (fun c5 => absurd (hx0) c5)
    refine wp_iload_1 dX7_bits_20 ?_
    refine wp_iret dX7_bits_21 rfl rfl ?_
    exact hQ
  | succ n ih =>
    intro x c hz0 hQ
    refine wp_iload_2 dX7_bits_4 ?_
    refine wp_if_eq (tgt := 20) dX7_bits_5 rfl (fun c5 => ?_) (fun c5 => ?_)
    · refine wp_iload_1 dX7_bits_20 ?_
      refine wp_iret dX7_bits_21 rfl rfl ?_
      rw [btF, if_pos c5] at hQ
      exact hQ
    · rw [btZ, if_neg c5] at hz0
      rw [btF, if_neg c5] at hQ
      refine wp_iinc_1 dX7_bits_8 rfl (Nat.le_of_ble_eq_true rfl) rfl ?_
      refine wp_iload_2 dX7_bits_11 ?_
      refine wp_iload_2 dX7_bits_12 ?_
      refine wp_iconst (v := 1) dX7_bits_13 rfl ?_
      refine wp_isub dX7_bits_14 ?_
      refine wp_iand dX7_bits_15 ?_
      refine wp_istore_2 dX7_bits_16 (Nat.le_of_ble_eq_true rfl) rfl ?_
      refine wp_goto (tgt := 4) dX7_bits_17 rfl ?_
      exact ih _ _ hz0 hQ
theorem btZ_32 : ∀ s : Nat, s < 32 → btZ 5 (nI s) = true := by decide
def bt (s : Nat) : Int32 := btF 5 (nI s) 0
set_option maxRecDepth 100000 in
set_option maxHeartbeats 4000000 in
theorem c_X7_bits {κ : KX} {M : MM} {Q : Option Value → va_W → Prop} {s : Nat} (hs : s < 32) (hQ : Q (some (.int (bt s))) (wM κ (M))) : CT κ (0, 0, 0) mX7_bits [.int (nI s)] (wM κ M) Q := by
  refine CT.of okX7_bits [some (.int (nI s)), none, none] (Nat.le_of_ble_eq_true rfl) rfl ?_
  refine wp_iconst (v := 0) dX7_bits_0 rfl ?_
  refine wp_istore_1 dX7_bits_1 (Nat.le_of_ble_eq_true rfl) rfl ?_
  refine wp_iload_0 dX7_bits_2 ?_
  refine wp_istore_2 dX7_bits_3 (Nat.le_of_ble_eq_true rfl) rfl ?_
  exact l_X7_bits 5 _ _ (btZ_32 s hs) hQ
def syA (s : Nat) (h : Nat → Int32) : Nat → Nat → Int32
  | 0 => h
  | j + 1 => if hasB (nI s) (nI j) = 0 then syA s h j else sy0 (syA s h j) j
theorem syA_fr (s : Nat) (h : Nat → Int32) {a : Nat} (ha : a < 27) : ∀ j, syA s h j a = h a
  | 0 => rfl
  | j + 1 => by
    have e : a ≠ 27 + j := by omega
    rw [syA]
    split
    · exact syA_fr s h ha j
    · rw [sy0, upd_o e]; exact syA_fr s h ha j
def syK (f : Nat → Int32) (g s : Nat) (h : Nat → Int32) : Nat → Int32 := goN g (cl (utl f)) (syA s (lyF f h) 5)
theorem nb1 {a b : Int32} {P : Prop} (h : ¬ a < b) (h2 : ¬ a = b) : ¬ (a < b ∨ (a = b ∧ P)) := fun q => q.elim h (fun q => h2 q.1)
theorem nb2 {a b x y : Int32} (h : ¬ a < b) (h2 : y ≤ x) : ¬ (a < b ∨ (a = b ∧ x < y)) := fun q => q.elim h (fun q => Int32.not_lt.mpr h2 q.2)
def ssF (f : Nat → Int32) (g : Nat) (m : Int32) (h : Nat → Int32) : Nat → (Nat → Int32) × Nat × Int32
  | 0 => (h, 0, 1000000)
  | s + 1 => if ¬ nI s &&& (msF f (g - 1) ^^^ (-1)) = 0 then ssF f g m h s else if m < bt s then ssF f g m h s else if smF (syK f g s (ssF f g m h s).1) 22 5 < (ssF f g m h s).2.2 ∨ (smF (syK f g s (ssF f g m h s).1) 22 5 = (ssF f g m h s).2.2 ∧ bt s < bt (ssF f g m h s).2.1) then (syK f g s (ssF f g m h s).1, s, smF (syK f g s (ssF f g m h s).1) 22 5) else (syK f g s (ssF f g m h s).1, (ssF f g m h s).2)
theorem ssF_lt (f : Nat → Int32) (g : Nat) (m : Int32) (h : Nat → Int32) : ∀ s, (ssF f g m h s).2.1 ≤ s
  | 0 => Nat.le_refl _
  | s + 1 => by
    have ih := ssF_lt f g m h s
    rw [ssF]
    split
    · omega
    · split
      · omega
      · split
        · show s ≤ s + 1
          omega
        · show (ssF f g m h s).2.1 ≤ s + 1
          omega
def tSs (f h : Nat → Int32) (g : Nat) (m wh : Int32) : (Nat → Int32) × Int32 := if wi m 0 5 = 0 then (h, -1) else if wi wh 0 1 = 0 then (h, -1) else ((ssF f g m h 32).1, if ¬ wh = 0 then (ssF f g m h 32).2.2 else nI (ssF f g m h 32).2.1)
set_option maxRecDepth 100000 in
set_option maxHeartbeats 4000000 in
theorem l_X7_sorries2 {κ : KX} {M : MM} {Q : Option Value → va_W → Prop} {h : Nat → Int32} {s : Nat} {x1 x2 x3 x4 x5 : Int32} {x8 : Option Value}  (hx : WP κ (4, 0, 0) mX7_sorries 99 [some (rv κ 120), some (.int x1), some (.int x2), some (.int x3), some (.int x4), some (.int x5), some (.int (nI s)), some (.int (nI 5)), x8] [] (wM κ (rI M 122 (syA s h 5))) (0, 0) Q) : ∀ n j, j + n = 5 → WP κ (4, 0, 0) mX7_sorries 68 [some (rv κ 120), some (.int x1), some (.int x2), some (.int x3), some (.int x4), some (.int x5), some (.int (nI s)), some (.int (nI j)), x8] [] (wM κ (rI M 122 (syA s h j))) (0, 0) Q := by
  intro n
  induction n with
  | zero =>
    intro j hn
    have hn : j = 5 := hn
    refine wp_iload_7 dX7_sorries_68 ?_
    refine wp_iconst (v := 5) dX7_sorries_70 rfl ?_
    refine wp_icmp_ge (tgt := 99) dX7_sorries_71 rfl (fun c71 => ?_) (fun c71 => absurd (nI_le (a := 5) (by omega) (by omega)) c71)
    subst hn
    exact hx
  | succ n ih =>
    intro j hn
    refine wp_iload_7 dX7_sorries_68 ?_
    refine wp_iconst (v := 5) dX7_sorries_70 rfl ?_
    refine wp_icmp_ge (tgt := 99) dX7_sorries_71 rfl (fun c71 => absurd c71 (nI_ge (b := 5) (by omega) (by omega))) (fun c71 => ?_)
    refine wp_iload_6 dX7_sorries_74 ?_
    refine wp_iload_7 dX7_sorries_76 ?_
    refine wp_callS_2 kX7_196 dX7_sorries_78 (c_X7_has ?_) ⟨Nat.le_of_ble_eq_true rfl, Nat.le_of_ble_eq_true rfl, Nat.le_of_ble_eq_true rfl⟩ (Nat.le_of_ble_eq_true rfl)
    refine wp_if_eq (tgt := 93) dX7_sorries_81 rfl (fun c81 => ?_) (fun c81 => ?_)
    · refine wp_iinc_7 (v := nI (j + 1)) dX7_sorries_93 (nI_inc _) (Nat.le_of_ble_eq_true rfl) rfl ?_
      refine wp_goto (tgt := 68) dX7_sorries_96 rfl ?_
      have hb := ih (j + 1) (by omega)
      first
        | (rw [show syA s h (j + 1) = syA s h j from if_pos c81] at hb; exact hb)
        | (rw [show syA s h (j + 1) = sy0 (syA s h j) j from if_neg c81] at hb; exact hb)
    · refine wp_rload_0 dX7_sorries_84 ?_
      refine wp_getR (t := 122) fX7_13 dX7_sorries_85 kd_120 rfl (rf_120_1) ?_
      refine wp_iload_7 dX7_sorries_88 ?_
      refine wp_callS_2 kX7_159 dX7_sorries_90 (c_X7_sorries0 (k := 122) ar_122 (by omega) ?_) ⟨Nat.le_of_ble_eq_true rfl, Nat.le_of_ble_eq_true rfl, Nat.le_of_ble_eq_true rfl⟩ (Nat.le_of_ble_eq_true rfl)
      refine wp_iinc_7 (v := nI (j + 1)) dX7_sorries_93 (nI_inc _) (Nat.le_of_ble_eq_true rfl) rfl ?_
      refine wp_goto (tgt := 68) dX7_sorries_96 rfl ?_
      have hb := ih (j + 1) (by omega)
      first
        | (rw [show syA s h (j + 1) = syA s h j from if_pos c81] at hb; exact hb)
        | (rw [show syA s h (j + 1) = sy0 (syA s h j) j from if_neg c81] at hb; exact hb)
set_option maxRecDepth 100000 in
set_option maxHeartbeats 4000000 in
theorem l_X7_sorries {κ : KX} {M : MM} {Q : Option Value → va_W → Prop} {h : Nat → Int32} {g yy ww : Nat} {m y : Int32} (hg : M.1 121 0 = nI g) (h6 : g ≤ 6) (hy : M.1 121 1 = nI yy) (y0 : 0 < yy) (y9 : yy ≤ 99) (hw3 : M.1 121 3 = nI ww) (w9 : ww ≤ 10000) (hx : ∀ x7 x8, WP κ (4, 0, 0) mX7_sorries 184 [some (rv κ 120), some (.int m), some (.int y), some (.int (msF (M.1 121) (g - 1))), some (.int (nI (ssF (M.1 121) g m h 32).2.1)), some (.int (ssF (M.1 121) g m h 32).2.2), some (.int (nI 32)), x7, x8] [] (wM κ (rI M 122 (ssF (M.1 121) g m h 32).1)) (0, 0) Q) : ∀ n j, j + n = 32 → ∀ x7 x8, WP κ (4, 0, 0) mX7_sorries 36 [some (rv κ 120), some (.int m), some (.int y), some (.int (msF (M.1 121) (g - 1))), some (.int (nI (ssF (M.1 121) g m h j).2.1)), some (.int (ssF (M.1 121) g m h j).2.2), some (.int (nI j)), x7, x8] [] (wM κ (rI M 122 (ssF (M.1 121) g m h j).1)) (0, 0) Q := by
  intro n
  induction n with
  | zero =>
    intro j hn x7 x8
    have hn : j = 32 := hn
    subst hn
    refine wp_iload_6 dX7_sorries_36 ?_
    refine wp_bipush (v := 32) dX7_sorries_38 rfl ?_
    refine wp_icmp_ge (tgt := 184) dX7_sorries_40 rfl (fun c40 => ?_) (fun c40 => absurd (nI_le (a := 32) (b := 32) (by omega) (by omega)) c40)
    exact hx _ _
  | succ n ih =>
    intro j hn x7 x8
    have hmd := Nat.mod_lt ww y0
    have hcl : cl (utl (M.1 121)) = (yy - ww % yy) := by
      rw [utl_N hy hw3 y0 y9 (by omega)]
      exact cl_nI (by omega)
    refine wp_iload_6 dX7_sorries_36 ?_
    refine wp_bipush (v := 32) dX7_sorries_38 rfl ?_
    refine wp_icmp_ge (tgt := 184) dX7_sorries_40 rfl (fun c40 => absurd c40 (nI_ge (b := 32) (by omega) (by omega))) (fun c40 => ?_)
    refine wp_iload_6 dX7_sorries_43 ?_
    refine wp_iload_3 dX7_sorries_45 ?_
    refine wp_iconst (v := (-1)) dX7_sorries_46 rfl ?_
    refine wp_ixor dX7_sorries_47 ?_
    refine wp_iand dX7_sorries_48 ?_
    refine wp_if_ne (tgt := 178) dX7_sorries_49 rfl (fun c49 => ?_) (fun c49 => ?_)
    · refine wp_iinc_6 (v := nI (j + 1)) dX7_sorries_178 (nI_inc _) (Nat.le_of_ble_eq_true rfl) rfl ?_
      refine wp_goto (tgt := 36) dX7_sorries_181 rfl ?_
      have hb := ih (j + 1) (by omega)
      first
        | (rw [show ssF (M.1 121) g m h (j + 1) = (ssF (M.1 121) g m h j) from if_pos c49] at hb; exact hb _ _)
        | (rw [show ssF (M.1 121) g m h (j + 1) = (ssF (M.1 121) g m h j) from (if_neg (fun q => q c49)).trans (if_pos c58)] at hb; exact hb _ _)
        | (rw [show ssF (M.1 121) g m h (j + 1) = ((syK (M.1 121) g j (ssF (M.1 121) g m h j).1), j, smF (syK (M.1 121) g j (ssF (M.1 121) g m h j).1) 22 5) from (if_neg (fun q => q c49)).trans ((if_neg c58).trans (if_pos (Or.inl c120)))] at hb; exact hb _ _)
        | (rw [show ssF (M.1 121) g m h (j + 1) = ((syK (M.1 121) g j (ssF (M.1 121) g m h j).1), j, smF (syK (M.1 121) g j (ssF (M.1 121) g m h j).1) 22 5) from (if_neg (fun q => q c49)).trans ((if_neg c58).trans (if_pos (Or.inr ⟨c127, Int32.not_le.mp c140⟩)))] at hb; exact hb _ _)
        | (rw [show ssF (M.1 121) g m h (j + 1) = ((syK (M.1 121) g j (ssF (M.1 121) g m h j).1), (ssF (M.1 121) g m h j).2) from (if_neg (fun q => q c49)).trans ((if_neg c58).trans (if_neg (nb2 c120 c140)))] at hb; exact hb _ _)
        | (rw [show ssF (M.1 121) g m h (j + 1) = ((syK (M.1 121) g j (ssF (M.1 121) g m h j).1), (ssF (M.1 121) g m h j).2) from (if_neg (fun q => q c49)).trans ((if_neg c58).trans (if_neg (nb1 c120 c127)))] at hb; exact hb _ _)
    · refine wp_iload_6 dX7_sorries_52 ?_
      refine wp_callS_1 kX7_193 dX7_sorries_54 (c_X7_bits (s := j) (by omega) ?_) ⟨Nat.le_of_ble_eq_true rfl, Nat.le_of_ble_eq_true rfl, Nat.le_of_ble_eq_true rfl⟩ (Nat.le_of_ble_eq_true rfl)
      refine wp_iload_1 dX7_sorries_57 ?_
      refine wp_icmp_gt (tgt := 178) dX7_sorries_58 rfl (fun c58 => ?_) (fun c58 => ?_)
      · refine wp_iinc_6 (v := nI (j + 1)) dX7_sorries_178 (nI_inc _) (Nat.le_of_ble_eq_true rfl) rfl ?_
        refine wp_goto (tgt := 36) dX7_sorries_181 rfl ?_
        have hb := ih (j + 1) (by omega)
        first
          | (rw [show ssF (M.1 121) g m h (j + 1) = (ssF (M.1 121) g m h j) from if_pos c49] at hb; exact hb _ _)
          | (rw [show ssF (M.1 121) g m h (j + 1) = (ssF (M.1 121) g m h j) from (if_neg (fun q => q c49)).trans (if_pos c58)] at hb; exact hb _ _)
          | (rw [show ssF (M.1 121) g m h (j + 1) = ((syK (M.1 121) g j (ssF (M.1 121) g m h j).1), j, smF (syK (M.1 121) g j (ssF (M.1 121) g m h j).1) 22 5) from (if_neg (fun q => q c49)).trans ((if_neg c58).trans (if_pos (Or.inl c120)))] at hb; exact hb _ _)
          | (rw [show ssF (M.1 121) g m h (j + 1) = ((syK (M.1 121) g j (ssF (M.1 121) g m h j).1), j, smF (syK (M.1 121) g j (ssF (M.1 121) g m h j).1) 22 5) from (if_neg (fun q => q c49)).trans ((if_neg c58).trans (if_pos (Or.inr ⟨c127, Int32.not_le.mp c140⟩)))] at hb; exact hb _ _)
          | (rw [show ssF (M.1 121) g m h (j + 1) = ((syK (M.1 121) g j (ssF (M.1 121) g m h j).1), (ssF (M.1 121) g m h j).2) from (if_neg (fun q => q c49)).trans ((if_neg c58).trans (if_neg (nb2 c120 c140)))] at hb; exact hb _ _)
          | (rw [show ssF (M.1 121) g m h (j + 1) = ((syK (M.1 121) g j (ssF (M.1 121) g m h j).1), (ssF (M.1 121) g m h j).2) from (if_neg (fun q => q c49)).trans ((if_neg c58).trans (if_neg (nb1 c120 c127)))] at hb; exact hb _ _)
      · refine wp_rload_0 dX7_sorries_61 ?_
        refine wp_callV_0 kX7_184 dX7_sorries_62 kd_120 rfl (c_X7_layAside (M := M) ?_) ⟨Nat.le_of_ble_eq_true rfl, Nat.le_of_ble_eq_true rfl, Nat.le_of_ble_eq_true rfl⟩ (Nat.le_of_ble_eq_true rfl)
        refine wp_iconst (v := 0) dX7_sorries_65 rfl ?_
        refine wp_istore_7 dX7_sorries_66 (Nat.le_of_ble_eq_true rfl) rfl ?_
        refine l_X7_sorries2 (s := j) (h := (lyF (M.1 121) (ssF (M.1 121) g m h j).1)) ?_ 5 0 (by omega)
        refine wp_rload_0 dX7_sorries_99 ?_
        refine wp_rload_0 dX7_sorries_100 ?_
        refine wp_callV_0 kX7_147 dX7_sorries_101 kd_120 rfl (c_X7_until (M := rI M 122 _) (by rw [rI_ne _ _ (by decide)]; exact yy_pos hy y0 y9) ?_) ⟨Nat.le_of_ble_eq_true rfl, Nat.le_of_ble_eq_true rfl, Nat.le_of_ble_eq_true rfl⟩ (Nat.le_of_ble_eq_true rfl)
        rw [rI_ne _ _ (by decide), utl_N hy hw3 y0 y9 (by omega)]
        refine wp_callV_1 kX7_187 dX7_sorries_104 kd_120 rfl (c_X7_go (M := M) (g := g) (m := (yy - ww % yy)) (h := syA j (lyF (M.1 121) (ssF (M.1 121) g m h j).1) 5) (by rw [syA_fr _ _ (by decide), lyF_in _ _ (by decide)]; exact hg) h6 (by rw [syA_fr _ _ (by decide), lyF_in _ _ (by decide)]; exact yy_pos hy y0 y9) (by omega) ?_) ⟨Nat.le_of_ble_eq_true rfl, Nat.le_of_ble_eq_true rfl, Nat.le_of_ble_eq_true rfl⟩ (Nat.le_of_ble_eq_true rfl)
        rw [show goN g (yy - ww % yy) (syA j (lyF (M.1 121) (ssF (M.1 121) g m h j).1) 5) = (syK (M.1 121) g j (ssF (M.1 121) g m h j).1) by rw [syK, hcl]]
        refine wp_rload_0 dX7_sorries_107 ?_
        refine wp_getR (t := 122) fX7_13 dX7_sorries_108 kd_120 rfl (rf_120_1) ?_
        refine wp_callS_1 kX7_143 dX7_sorries_111 (c_X7_coursesOf (k := 122) ar_122 ?_) ⟨Nat.le_of_ble_eq_true rfl, Nat.le_of_ble_eq_true rfl, Nat.le_of_ble_eq_true rfl⟩ (Nat.le_of_ble_eq_true rfl)
        refine wp_istore_7 dX7_sorries_114 (Nat.le_of_ble_eq_true rfl) rfl ?_
        refine wp_iload_7 dX7_sorries_116 ?_
        refine wp_iload_5 dX7_sorries_118 ?_
        refine wp_icmp_lt (tgt := 143) dX7_sorries_120 rfl (fun c120 => ?_) (fun c120 => ?_)
        · refine wp_iconst (v := 1) dX7_sorries_143 rfl ?_
          refine wp_goto (tgt := 148) dX7_sorries_144 rfl ?_
          refine wp_istore_8 dX7_sorries_148 (Nat.le_of_ble_eq_true rfl) rfl ?_
          refine wp_iload_8 dX7_sorries_150 ?_
          refine wp_if_eq (tgt := 160) dX7_sorries_152 rfl (fun c152 => absurd c152 (by decide)) (fun c152 => ?_)
          refine wp_iload_6 dX7_sorries_155 ?_
          refine wp_goto (tgt := 162) dX7_sorries_157 rfl ?_
          refine wp_istore_4 dX7_sorries_162 (Nat.le_of_ble_eq_true rfl) rfl ?_
          refine wp_iload_8 dX7_sorries_164 ?_
          refine wp_if_eq (tgt := 174) dX7_sorries_166 rfl (fun c166 => absurd c166 (by decide)) (fun c166 => ?_)
          refine wp_iload_7 dX7_sorries_169 ?_
          refine wp_goto (tgt := 176) dX7_sorries_171 rfl ?_
          refine wp_istore_5 dX7_sorries_176 (Nat.le_of_ble_eq_true rfl) rfl ?_
          refine wp_iinc_6 (v := nI (j + 1)) dX7_sorries_178 (nI_inc _) (Nat.le_of_ble_eq_true rfl) rfl ?_
          refine wp_goto (tgt := 36) dX7_sorries_181 rfl ?_
          have hb := ih (j + 1) (by omega)
          first
            | (rw [show ssF (M.1 121) g m h (j + 1) = (ssF (M.1 121) g m h j) from if_pos c49] at hb; exact hb _ _)
            | (rw [show ssF (M.1 121) g m h (j + 1) = (ssF (M.1 121) g m h j) from (if_neg (fun q => q c49)).trans (if_pos c58)] at hb; exact hb _ _)
            | (rw [show ssF (M.1 121) g m h (j + 1) = ((syK (M.1 121) g j (ssF (M.1 121) g m h j).1), j, smF (syK (M.1 121) g j (ssF (M.1 121) g m h j).1) 22 5) from (if_neg (fun q => q c49)).trans ((if_neg c58).trans (if_pos (Or.inl c120)))] at hb; exact hb _ _)
            | (rw [show ssF (M.1 121) g m h (j + 1) = ((syK (M.1 121) g j (ssF (M.1 121) g m h j).1), j, smF (syK (M.1 121) g j (ssF (M.1 121) g m h j).1) 22 5) from (if_neg (fun q => q c49)).trans ((if_neg c58).trans (if_pos (Or.inr ⟨c127, Int32.not_le.mp c140⟩)))] at hb; exact hb _ _)
            | (rw [show ssF (M.1 121) g m h (j + 1) = ((syK (M.1 121) g j (ssF (M.1 121) g m h j).1), (ssF (M.1 121) g m h j).2) from (if_neg (fun q => q c49)).trans ((if_neg c58).trans (if_neg (nb2 c120 c140)))] at hb; exact hb _ _)
            | (rw [show ssF (M.1 121) g m h (j + 1) = ((syK (M.1 121) g j (ssF (M.1 121) g m h j).1), (ssF (M.1 121) g m h j).2) from (if_neg (fun q => q c49)).trans ((if_neg c58).trans (if_neg (nb1 c120 c127)))] at hb; exact hb _ _)
        · refine wp_iload_7 dX7_sorries_123 ?_
          refine wp_iload_5 dX7_sorries_125 ?_
          refine wp_icmp_ne (tgt := 147) dX7_sorries_127 rfl (fun c127 => ?_) (fun c127 => ?_)
          · refine wp_iconst (v := 0) dX7_sorries_147 rfl ?_
            refine wp_istore_8 dX7_sorries_148 (Nat.le_of_ble_eq_true rfl) rfl ?_
            refine wp_iload_8 dX7_sorries_150 ?_
            refine wp_if_eq (tgt := 160) dX7_sorries_152 rfl (fun c152 => ?_) (fun c152 => absurd (rfl) c152)
            refine wp_iload_4 dX7_sorries_160 ?_
            refine wp_istore_4 dX7_sorries_162 (Nat.le_of_ble_eq_true rfl) rfl ?_
            refine wp_iload_8 dX7_sorries_164 ?_
            refine wp_if_eq (tgt := 174) dX7_sorries_166 rfl (fun c166 => ?_) (fun c166 => absurd (rfl) c166)
            refine wp_iload_5 dX7_sorries_174 ?_
            refine wp_istore_5 dX7_sorries_176 (Nat.le_of_ble_eq_true rfl) rfl ?_
            refine wp_iinc_6 (v := nI (j + 1)) dX7_sorries_178 (nI_inc _) (Nat.le_of_ble_eq_true rfl) rfl ?_
            refine wp_goto (tgt := 36) dX7_sorries_181 rfl ?_
            have hb := ih (j + 1) (by omega)
            first
              | (rw [show ssF (M.1 121) g m h (j + 1) = (ssF (M.1 121) g m h j) from if_pos c49] at hb; exact hb _ _)
              | (rw [show ssF (M.1 121) g m h (j + 1) = (ssF (M.1 121) g m h j) from (if_neg (fun q => q c49)).trans (if_pos c58)] at hb; exact hb _ _)
              | (rw [show ssF (M.1 121) g m h (j + 1) = ((syK (M.1 121) g j (ssF (M.1 121) g m h j).1), j, smF (syK (M.1 121) g j (ssF (M.1 121) g m h j).1) 22 5) from (if_neg (fun q => q c49)).trans ((if_neg c58).trans (if_pos (Or.inl c120)))] at hb; exact hb _ _)
              | (rw [show ssF (M.1 121) g m h (j + 1) = ((syK (M.1 121) g j (ssF (M.1 121) g m h j).1), j, smF (syK (M.1 121) g j (ssF (M.1 121) g m h j).1) 22 5) from (if_neg (fun q => q c49)).trans ((if_neg c58).trans (if_pos (Or.inr ⟨c127, Int32.not_le.mp c140⟩)))] at hb; exact hb _ _)
              | (rw [show ssF (M.1 121) g m h (j + 1) = ((syK (M.1 121) g j (ssF (M.1 121) g m h j).1), (ssF (M.1 121) g m h j).2) from (if_neg (fun q => q c49)).trans ((if_neg c58).trans (if_neg (nb2 c120 c140)))] at hb; exact hb _ _)
              | (rw [show ssF (M.1 121) g m h (j + 1) = ((syK (M.1 121) g j (ssF (M.1 121) g m h j).1), (ssF (M.1 121) g m h j).2) from (if_neg (fun q => q c49)).trans ((if_neg c58).trans (if_neg (nb1 c120 c127)))] at hb; exact hb _ _)
          · refine wp_iload_6 dX7_sorries_130 ?_
            refine wp_callS_1 kX7_193 dX7_sorries_132 (c_X7_bits (s := j) (by omega) ?_) ⟨Nat.le_of_ble_eq_true rfl, Nat.le_of_ble_eq_true rfl, Nat.le_of_ble_eq_true rfl⟩ (Nat.le_of_ble_eq_true rfl)
            refine wp_iload_4 dX7_sorries_135 ?_
            refine wp_callS_1 kX7_193 dX7_sorries_137 (c_X7_bits (by have := ssF_lt (M.1 121) g m h j; omega) ?_) ⟨Nat.le_of_ble_eq_true rfl, Nat.le_of_ble_eq_true rfl, Nat.le_of_ble_eq_true rfl⟩ (Nat.le_of_ble_eq_true rfl)
            refine wp_icmp_ge (tgt := 147) dX7_sorries_140 rfl (fun c140 => ?_) (fun c140 => ?_)
            · refine wp_iconst (v := 0) dX7_sorries_147 rfl ?_
              refine wp_istore_8 dX7_sorries_148 (Nat.le_of_ble_eq_true rfl) rfl ?_
              refine wp_iload_8 dX7_sorries_150 ?_
              refine wp_if_eq (tgt := 160) dX7_sorries_152 rfl (fun c152 => ?_) (fun c152 => absurd (rfl) c152)
              refine wp_iload_4 dX7_sorries_160 ?_
              refine wp_istore_4 dX7_sorries_162 (Nat.le_of_ble_eq_true rfl) rfl ?_
              refine wp_iload_8 dX7_sorries_164 ?_
              refine wp_if_eq (tgt := 174) dX7_sorries_166 rfl (fun c166 => ?_) (fun c166 => absurd (rfl) c166)
              refine wp_iload_5 dX7_sorries_174 ?_
              refine wp_istore_5 dX7_sorries_176 (Nat.le_of_ble_eq_true rfl) rfl ?_
              refine wp_iinc_6 (v := nI (j + 1)) dX7_sorries_178 (nI_inc _) (Nat.le_of_ble_eq_true rfl) rfl ?_
              refine wp_goto (tgt := 36) dX7_sorries_181 rfl ?_
              have hb := ih (j + 1) (by omega)
              first
                | (rw [show ssF (M.1 121) g m h (j + 1) = (ssF (M.1 121) g m h j) from if_pos c49] at hb; exact hb _ _)
                | (rw [show ssF (M.1 121) g m h (j + 1) = (ssF (M.1 121) g m h j) from (if_neg (fun q => q c49)).trans (if_pos c58)] at hb; exact hb _ _)
                | (rw [show ssF (M.1 121) g m h (j + 1) = ((syK (M.1 121) g j (ssF (M.1 121) g m h j).1), j, smF (syK (M.1 121) g j (ssF (M.1 121) g m h j).1) 22 5) from (if_neg (fun q => q c49)).trans ((if_neg c58).trans (if_pos (Or.inl c120)))] at hb; exact hb _ _)
                | (rw [show ssF (M.1 121) g m h (j + 1) = ((syK (M.1 121) g j (ssF (M.1 121) g m h j).1), j, smF (syK (M.1 121) g j (ssF (M.1 121) g m h j).1) 22 5) from (if_neg (fun q => q c49)).trans ((if_neg c58).trans (if_pos (Or.inr ⟨c127, Int32.not_le.mp c140⟩)))] at hb; exact hb _ _)
                | (rw [show ssF (M.1 121) g m h (j + 1) = ((syK (M.1 121) g j (ssF (M.1 121) g m h j).1), (ssF (M.1 121) g m h j).2) from (if_neg (fun q => q c49)).trans ((if_neg c58).trans (if_neg (nb2 c120 c140)))] at hb; exact hb _ _)
                | (rw [show ssF (M.1 121) g m h (j + 1) = ((syK (M.1 121) g j (ssF (M.1 121) g m h j).1), (ssF (M.1 121) g m h j).2) from (if_neg (fun q => q c49)).trans ((if_neg c58).trans (if_neg (nb1 c120 c127)))] at hb; exact hb _ _)
            · refine wp_iconst (v := 1) dX7_sorries_143 rfl ?_
              refine wp_goto (tgt := 148) dX7_sorries_144 rfl ?_
              refine wp_istore_8 dX7_sorries_148 (Nat.le_of_ble_eq_true rfl) rfl ?_
              refine wp_iload_8 dX7_sorries_150 ?_
              refine wp_if_eq (tgt := 160) dX7_sorries_152 rfl (fun c152 => absurd c152 (by decide)) (fun c152 => ?_)
              refine wp_iload_6 dX7_sorries_155 ?_
              refine wp_goto (tgt := 162) dX7_sorries_157 rfl ?_
              refine wp_istore_4 dX7_sorries_162 (Nat.le_of_ble_eq_true rfl) rfl ?_
              refine wp_iload_8 dX7_sorries_164 ?_
              refine wp_if_eq (tgt := 174) dX7_sorries_166 rfl (fun c166 => absurd c166 (by decide)) (fun c166 => ?_)
              refine wp_iload_7 dX7_sorries_169 ?_
              refine wp_goto (tgt := 176) dX7_sorries_171 rfl ?_
              refine wp_istore_5 dX7_sorries_176 (Nat.le_of_ble_eq_true rfl) rfl ?_
              refine wp_iinc_6 (v := nI (j + 1)) dX7_sorries_178 (nI_inc _) (Nat.le_of_ble_eq_true rfl) rfl ?_
              refine wp_goto (tgt := 36) dX7_sorries_181 rfl ?_
              have hb := ih (j + 1) (by omega)
              first
                | (rw [show ssF (M.1 121) g m h (j + 1) = (ssF (M.1 121) g m h j) from if_pos c49] at hb; exact hb _ _)
                | (rw [show ssF (M.1 121) g m h (j + 1) = (ssF (M.1 121) g m h j) from (if_neg (fun q => q c49)).trans (if_pos c58)] at hb; exact hb _ _)
                | (rw [show ssF (M.1 121) g m h (j + 1) = ((syK (M.1 121) g j (ssF (M.1 121) g m h j).1), j, smF (syK (M.1 121) g j (ssF (M.1 121) g m h j).1) 22 5) from (if_neg (fun q => q c49)).trans ((if_neg c58).trans (if_pos (Or.inl c120)))] at hb; exact hb _ _)
                | (rw [show ssF (M.1 121) g m h (j + 1) = ((syK (M.1 121) g j (ssF (M.1 121) g m h j).1), j, smF (syK (M.1 121) g j (ssF (M.1 121) g m h j).1) 22 5) from (if_neg (fun q => q c49)).trans ((if_neg c58).trans (if_pos (Or.inr ⟨c127, Int32.not_le.mp c140⟩)))] at hb; exact hb _ _)
                | (rw [show ssF (M.1 121) g m h (j + 1) = ((syK (M.1 121) g j (ssF (M.1 121) g m h j).1), (ssF (M.1 121) g m h j).2) from (if_neg (fun q => q c49)).trans ((if_neg c58).trans (if_neg (nb2 c120 c140)))] at hb; exact hb _ _)
                | (rw [show ssF (M.1 121) g m h (j + 1) = ((syK (M.1 121) g j (ssF (M.1 121) g m h j).1), (ssF (M.1 121) g m h j).2) from (if_neg (fun q => q c49)).trans ((if_neg c58).trans (if_neg (nb1 c120 c127)))] at hb; exact hb _ _)
set_option maxRecDepth 100000 in
set_option maxHeartbeats 4000000 in
theorem c_X7_sorries {κ : KX} {M : MM} {Q : Option Value → va_W → Prop} {h : Nat → Int32} {g yy ww : Nat} {m wh : Int32} (hg : M.1 121 0 = nI g) (h6 : g ≤ 6) (hy : M.1 121 1 = nI yy) (y0 : 0 < yy) (y9 : yy ≤ 99) (hw3 : M.1 121 3 = nI ww) (w9 : ww ≤ 10000) (hQ : Q (some (.int (tSs (M.1 121) h g m wh).2)) (wM κ (rI M 122 (tSs (M.1 121) h g m wh).1))) : CT κ (4, 0, 0) mX7_sorries [rv κ 120, .int m, .int wh] (wM κ (rI M 122 h)) Q := by
  refine CT.of okX7_sorries [some (rv κ 120), some (.int m), some (.int wh), none, none, none, none, none, none] (Nat.le_of_ble_eq_true rfl) rfl ?_
  refine wp_iload_1 dX7_sorries_0 ?_
  refine wp_i2l dX7_sorries_1 ?_
  refine wp_lconst (v := 0) dX7_sorries_2 rfl ?_
  refine wp_ldc2 nX7_78 dX7_sorries_3 ?_
  refine wp_callS_3 kX7_43 dX7_sorries_6 (c_X7_in (lo := 0) (hi := 5) (by decide) (by decide) ?_) ⟨Nat.le_of_ble_eq_true rfl, Nat.le_of_ble_eq_true rfl, Nat.le_of_ble_eq_true rfl⟩ (Nat.le_of_ble_eq_true rfl)
  refine wp_if_eq (tgt := 19) dX7_sorries_9 rfl (fun c9 => ?_) (fun c9 => ?_)
  · refine wp_iconst (v := (-1)) dX7_sorries_19 rfl ?_
    refine wp_iret dX7_sorries_20 rfl rfl ?_
    first
      | (rw [tSs, if_pos c9] at hQ; exact hQ)
      | (rw [tSs, if_neg c9, if_pos c16] at hQ; exact hQ)
  · refine wp_iload_2 dX7_sorries_12 ?_
    refine wp_callS_1 kX7_163 dX7_sorries_13 (c_X7_isTwo ?_) ⟨Nat.le_of_ble_eq_true rfl, Nat.le_of_ble_eq_true rfl, Nat.le_of_ble_eq_true rfl⟩ (Nat.le_of_ble_eq_true rfl)
    refine wp_if_ne (tgt := 21) dX7_sorries_16 rfl (fun c16 => ?_) (fun c16 => ?_)
    · refine wp_rload_0 dX7_sorries_21 ?_
      refine wp_callV_0 kX7_150 dX7_sorries_22 kd_120 rfl (c_X7_maySorry (M := rI M 122 h) (by rw [rI_ne _ _ (by decide)]; exact hg) h6 ?_) ⟨Nat.le_of_ble_eq_true rfl, Nat.le_of_ble_eq_true rfl, Nat.le_of_ble_eq_true rfl⟩ (Nat.le_of_ble_eq_true rfl)
      rw [rI_ne _ _ (by decide)]
      refine wp_istore_3 dX7_sorries_25 (Nat.le_of_ble_eq_true rfl) rfl ?_
      refine wp_iconst (v := 0) dX7_sorries_26 rfl ?_
      refine wp_istore_4 dX7_sorries_27 (Nat.le_of_ble_eq_true rfl) rfl ?_
      refine wp_ldc nX7_192 dX7_sorries_29 ?_
      refine wp_istore_5 dX7_sorries_31 (Nat.le_of_ble_eq_true rfl) rfl ?_
      refine wp_iconst (v := 0) dX7_sorries_33 rfl ?_
      refine wp_istore_6 dX7_sorries_34 (Nat.le_of_ble_eq_true rfl) rfl ?_
      refine l_X7_sorries hg h6 hy y0 y9 hw3 w9 (fun x7 x8 => ?_) 32 0 (by omega) none none
      refine wp_iload_2 dX7_sorries_184 ?_
      refine wp_if_ne (tgt := 193) dX7_sorries_185 rfl (fun c185 => ?_) (fun c185 => ?_)
      · refine wp_iload_5 dX7_sorries_193 ?_
        refine wp_iret dX7_sorries_195 rfl rfl ?_
        first
          | (rw [tSs, if_neg c9, if_neg c16, if_pos c185] at hQ; exact hQ)
          | (rw [tSs, if_neg c9, if_neg c16, if_neg (fun q => q c185)] at hQ; exact hQ)
      · refine wp_iload_4 dX7_sorries_188 ?_
        refine wp_goto (tgt := 195) dX7_sorries_190 rfl ?_
        refine wp_iret dX7_sorries_195 rfl rfl ?_
        first
          | (rw [tSs, if_neg c9, if_neg c16, if_pos c185] at hQ; exact hQ)
          | (rw [tSs, if_neg c9, if_neg c16, if_neg (fun q => q c185)] at hQ; exact hQ)
    · refine wp_iconst (v := (-1)) dX7_sorries_19 rfl ?_
      refine wp_iret dX7_sorries_20 rfl rfl ?_
      first
        | (rw [tSs, if_pos c9] at hQ; exact hQ)
        | (rw [tSs, if_neg c9, if_pos c16] at hQ; exact hQ)
