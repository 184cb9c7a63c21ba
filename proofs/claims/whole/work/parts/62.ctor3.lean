/-! the constructor of the class -/
def pre6 (κ : KX) (a : Nat) (f1 c1 f2 c2 g t : Nat → Nat) (e0 : Nat) : va_W := (a, .inr (6, [.ref (f1 0), .ref (f2 0), .int 0, .ref (g 0), .ref (t 0), .ref e0])) :: (bSR κ f1 c1 ++ (bSR κ f2 c2 ++ (bOU κ (g 0) (f1 0) (g 1) (g 2) (g 3) (g 4) ++ bTA κ (t 0) (t 1) (t 2) (t 3) (t 4))))
def bSH (κ : KX) (e : Nat → Nat) : Nat → va_W
  | 0 => []
  | i + 1 => bSH κ e i ++ bSH1 κ (e (1 + 2 * i)) (e (2 + 2 * i))
def sqF (e : Nat → Nat) (i j : Nat) : Option Nat := if j < i then some (e (1 + 2 * j)) else none
def bSQ (κ : KX) (e : Nat → Nat) (i : Nat) : va_W := (e 0, aQ κ 4 4 (sqF e i)) :: bSH κ e i
def bQW (κ : KX) (a : Nat) (f1 c1 f2 c2 g t e : Nat → Nat) : va_W := pre6 κ a f1 c1 f2 c2 g t (e 0) ++ bSQ κ e 4
theorem bSH_len (κ : KX) (c : Nat → Nat) : ∀ i, (bSH κ c i).length = 2 * i
  | 0 => rfl
  | i + 1 => by
    rw [bSH, List.length_append, bSH_len κ c i]
    show 2 * i + 2 = 2 * (i + 1)
    omega
theorem bSH_cg {κ : KX} {c d : Nat → Nat} : ∀ i, (∀ k, k < 1 + 2 * i → c k = d k) → bSH κ c i = bSH κ d i
  | 0, _ => rfl
  | i + 1, h => by
    rw [bSH, bSH, bSH_cg i (fun k hk => h k (by omega)), h _ (by omega), h _ (by omega)]
theorem bSQ_up {κ : KX} {c : Nat → Nat} {i b b1 : Nat} : (bSQ κ c i ++ bSH1 κ b b1).set 0 (c 0, aQ κ 4 4 (va_up (sqF c i) i (some b))) = bSQ κ (cUp c (1 + 2 * i) [b, b1]) (i + 1) := by
  have e0 : cUp c (1 + 2 * i) [b, b1] 0 = c 0 := cUp_lo (by omega)
  have e2 : cUp c (1 + 2 * i) [b, b1] (1 + 2 * i) = b := cUp_hi (j := 0) (by omega)
  have e3 : cUp c (1 + 2 * i) [b, b1] (2 + 2 * i) = b1 := cUp_hi (j := 1) (by omega)
  have eS : bSH κ (cUp c (1 + 2 * i) [b, b1]) i = bSH κ c i := bSH_cg i (fun k hk => cUp_lo hk)
  have eF : va_up (sqF c i) i (some b) = sqF (cUp c (1 + 2 * i) [b, b1]) (i + 1) := by
    funext j
    unfold va_up sqF
    by_cases h : j = i
    · subst h
      rw [if_pos rfl, if_pos (by omega), e2]
    · rw [if_neg h]
      by_cases h2 : j < i
      · rw [if_pos h2, if_pos (by omega), cUp_lo (by omega)]
      · rw [if_neg h2, if_neg (by omega)]
  rw [eF]
  show (c 0, _) :: (bSH κ c i ++ bSH1 κ b b1) = _
  rw [bSQ, bSH, eS, e0, e2, e3]
set_option maxRecDepth 100000 in
set_option maxHeartbeats 4000000 in
theorem l_X6_init {κ : KX} {Q : Option Value → va_W → Prop} {a : Nat} {f1 c1 f2 c2 g t : Nat → Nat} (hQ : ∀ e : Nat → Nat, Q none (bQW κ a f1 c1 f2 c2 g t e)) : ∀ n i (e : Nat → Nat), i + n = 4 → WP κ (4, 119, 772) mX6_init 67 [some (.ref a), some (.int (nI i))] [] (pre6 κ a f1 c1 f2 c2 g t (e 0) ++ bSQ κ e i) (111 + 2 * i, 660 + 28 * i) Q := by
  intro n
  induction n with
  | zero =>
    intro i e hn
    have hi : i = 4 := hn
    subst hi
    refine wp_iload_1 dX6_init_67 ?_
    refine wp_iconst (v := 4) dX6_init_68 rfl ?_
    refine wp_icmp_ge (tgt := 91) dX6_init_69 rfl (fun _ => ?_) (fun q => absurd (nI_le (a := 4) (b := 4) (by omega) (by omega)) q)
    refine wp_vret dX6_init_91 rfl rfl ?_
    exact hQ e
  | succ n ih =>
    intro i e hn
    refine wp_iload_1 dX6_init_67 ?_
    refine wp_iconst (v := 4) dX6_init_68 rfl ?_
    refine wp_icmp_ge (tgt := 91) dX6_init_69 rfl (fun q => absurd q (nI_ge (b := 4) (by omega) (by omega))) (fun _ => ?_)
    refine wp_aload_0 dX6_init_72 ?_
    refine wp_cg (List.nil_append _).symm ?_
    refine wp_getG (q0 := 0) fX6_41 dX6_init_73 rfl rfl ?_
    refine wp_cg (List.nil_append _) ?_
    refine wp_iload_1 dX6_init_76 ?_
    refine wp_newO (q := (RX2, TX2, 4)) (c := 2) (fs := bl2) (ty := tyX2) lX6_39 inX2 iniX2 rfl tyX2_ok bl2_ok dX6_init_77 ⟨by show 111 + 2 * i + 1 ≤ 119; omega, by show 660 + 28 * i + 4 ≤ 772; omega⟩ (fun b => ?_)
    refine wp_dup_ref dX6_init_80 ?_
    refine wp_callIN (As := []) kX6_45 dX6_init_81 ⟨(Nat.le_of_ble_eq_true rfl), by show 111 + 2 * i + 1 + 1 ≤ 119; omega, by show 660 + 28 * i + 4 + 24 ≤ 772; omega⟩ rfl rfl (Nat.le_of_ble_eq_true rfl) (c_X2_init (fun b1 => ?_))
    show WP κ (4, 119, 772) mX6_init 84 [some (.ref a), some (.int (nI i))] [.ref b, .int (nI i), .ref (e 0)] (pre6 κ a f1 c1 f2 c2 g t (e 0) ++ (bSQ κ e i ++ bSH1 κ b b1)) (111 + 2 * i + 1 + 1, 660 + 28 * i + 4 + 24) Q
    refine wp_aast4 (q0 := 0) (qk := 1 + 2 * i) (j := i) (N := 4) dX6_init_84 rfl (vs := [.ref b1, .int 0, .int 0, .int 0]) ?_ rfl (by omega) (by decide) ?_
    · rw [List.getElem?_append_right (by show (bSH κ e i).length + 1 ≤ _; rw [bSH_len]; omega)]
      show (bSH1 κ b b1)[1 + 2 * i - ((bSH κ e i).length + 1)]? = _
      rw [bSH_len, show 1 + 2 * i - (2 * i + 1) = 0 by omega]
      rfl
    · rw [show (bSQ κ e i ++ bSH1 κ b b1).set 0 (e 0, .inl (kc κ 4, 4, .inr (.inr (.inr (.inr (va_up (sqF e i) i (some b))))))) = bSQ κ (cUp e (1 + 2 * i) [b, b1]) (i + 1) from bSQ_up]
      refine wp_iinc_1 (v := nI (i + 1)) dX6_init_85 (nI_inc _) (Nat.le_of_ble_eq_true rfl) rfl ?_
      refine wp_goto (tgt := 67) dX6_init_88 rfl ?_
      have e0 : cUp e (1 + 2 * i) [b, b1] 0 = e 0 := cUp_lo (by omega)
      have h := ih (i + 1) (cUp e (1 + 2 * i) [b, b1]) (by omega)
      rw [e0, show 111 + 2 * (i + 1) = 111 + 2 * i + 1 + 1 by omega, show 660 + 28 * (i + 1) = 660 + 28 * i + 4 + 24 by omega] at h
      exact h
set_option maxRecDepth 100000 in
set_option maxHeartbeats 4000000 in
theorem c_X6_init {κ : KX} {Q : Option Value → va_W → Prop} {a : Nat} (hQ : ∀ f1 c1 f2 c2 g t e : Nat → Nat, Q none (bQW κ a f1 c1 f2 c2 g t e)) : CT κ (4, 119, 772) mX6_init [.ref a] ([] ++ [(a, .inr (6, bl6))]) Q := by
  refine CT.of okX6_init [some (.ref a), none] (Nat.le_of_ble_eq_true rfl) rfl ?_
  refine wp_aload_0 dX6_init_0 ?_
  refine wp_oinit kX6_1 dX6_init_1 (Nat.le_of_ble_eq_true rfl) (Nat.le_of_ble_eq_true rfl) ?_
  refine wp_aload_0 dX6_init_4 ?_
  refine wp_newO (q := (RX4, TX4, 7)) (c := 4) (fs := bl4) (ty := tyX4) lX6_7 inX4 iniX4 rfl tyX4_ok bl4_ok dX6_init_5 ⟨(Nat.le_of_ble_eq_true rfl), (Nat.le_of_ble_eq_true rfl)⟩ (fun p1 => ?_)
  refine wp_dup_ref dX6_init_8 ?_
  refine wp_callIN (As := []) kX6_9 dX6_init_9 ⟨Nat.le_of_ble_eq_true rfl, Nat.le_of_ble_eq_true rfl, Nat.le_of_ble_eq_true rfl⟩ rfl rfl (Nat.le_of_ble_eq_true rfl) (c_X4_init (fun f1 c1 hf1 => ?_))
  subst hf1
  show WP κ (4, 119, 772) mX6_init 12 [some (.ref a), none] [.ref (f1 0), .ref a] ([] ++ _) _ Q
  refine wp_putF (q0 := 0) (ty1 := tyX6 0) fX6_10 dX6_init_12 rfl (fun q hq _ => by cases hq; exact ⟨rfl, tyX6_ok 0 (by decide), rfl⟩) rfl rfl rfl (Nat.le_of_ble_eq_true rfl) ?_
  refine wp_aload_0 dX6_init_15 ?_
  refine wp_newO (q := (RX4, TX4, 7)) (c := 4) (fs := bl4) (ty := tyX4) lX6_7 inX4 iniX4 rfl tyX4_ok bl4_ok dX6_init_16 ⟨(Nat.le_of_ble_eq_true rfl), (Nat.le_of_ble_eq_true rfl)⟩ (fun p2 => ?_)
  refine wp_dup_ref dX6_init_19 ?_
  refine wp_callIN (As := []) kX6_9 dX6_init_20 ⟨Nat.le_of_ble_eq_true rfl, Nat.le_of_ble_eq_true rfl, Nat.le_of_ble_eq_true rfl⟩ rfl rfl (Nat.le_of_ble_eq_true rfl) (c_X4_init (fun f2 c2 hf2 => ?_))
  subst hf2
  show WP κ (4, 119, 772) mX6_init 23 [some (.ref a), none] [.ref (f2 0), .ref a] ([] ++ _) _ Q
  refine wp_putF (q0 := 0) (ty1 := tyX6 1) fX6_16 dX6_init_23 rfl (fun q hq _ => by cases hq; exact ⟨rfl, tyX6_ok 1 (by decide), rfl⟩) rfl rfl rfl (Nat.le_of_ble_eq_true rfl) ?_
  refine wp_aload_0 dX6_init_26 ?_
  refine wp_iconst (v := 0) dX6_init_27 rfl ?_
  refine wp_putG (q0 := 0) (ty1 := tyX6 2) fX6_19 dX6_init_28 rfl (fun q hq _ => by cases hq; exact ⟨rfl, tyX6_ok 2 (by decide), rfl⟩) rfl rfl rfl (Nat.le_of_ble_eq_true rfl) ?_
  refine wp_aload_0 dX6_init_31 ?_
  refine wp_newO (q := (RX0, TX0, 5)) (c := 0) (fs := bl0) (ty := tyX0) lX6_23 inX0 iniX0 rfl tyX0_ok bl0_ok dX6_init_32 ⟨(Nat.le_of_ble_eq_true rfl), (Nat.le_of_ble_eq_true rfl)⟩ (fun p3 => ?_)
  refine wp_dup_ref dX6_init_35 ?_
  refine wp_aload_0 dX6_init_36 ?_
  refine wp_getG (q0 := 0) fX6_10 dX6_init_37 rfl rfl ?_
  refine wp_callI (As := [.ref (f1 0)]) kX6_25 dX6_init_40 ⟨Nat.le_of_ble_eq_true rfl, Nat.le_of_ble_eq_true rfl, Nat.le_of_ble_eq_true rfl⟩ rfl rfl (Nat.le_of_ble_eq_true rfl) (c_X0_init (fun g1 g2 g3 g4 => ?_))
  show WP κ (4, 119, 772) mX6_init 43 [some (.ref a), none] [.ref p3, .ref a] ([] ++ _) _ Q
  refine wp_putF (q0 := 0) (ty1 := tyX6 3) fX6_28 dX6_init_43 rfl (fun q hq _ => by cases hq; exact ⟨rfl, tyX6_ok 3 (by decide), rfl⟩) rfl rfl rfl (Nat.le_of_ble_eq_true rfl) ?_
  refine wp_aload_0 dX6_init_46 ?_
  refine wp_newO (q := (RX5, TX5, 8)) (c := 5) (fs := bl5) (ty := tyX5) lX6_32 inX5 iniX5 rfl tyX5_ok bl5_ok dX6_init_47 ⟨(Nat.le_of_ble_eq_true rfl), (Nat.le_of_ble_eq_true rfl)⟩ (fun p4 => ?_)
  refine wp_dup_ref dX6_init_50 ?_
  refine wp_callIN (As := []) kX6_34 dX6_init_51 ⟨Nat.le_of_ble_eq_true rfl, Nat.le_of_ble_eq_true rfl, Nat.le_of_ble_eq_true rfl⟩ rfl rfl (Nat.le_of_ble_eq_true rfl) (c_X5_init (fun t1 t2 t3 t4 => ?_))
  show WP κ (4, 119, 772) mX6_init 54 [some (.ref a), none] [.ref p4, .ref a] ([] ++ _) _ Q
  refine wp_putF (q0 := 0) (ty1 := tyX6 4) fX6_35 dX6_init_54 rfl (fun q hq _ => by cases hq; exact ⟨rfl, tyX6_ok 4 (by decide), rfl⟩) rfl rfl rfl (Nat.le_of_ble_eq_true rfl) ?_
  refine wp_aload_0 dX6_init_57 ?_
  refine wp_iconst (v := 4) dX6_init_58 rfl ?_
  refine wp_newQ4 (N := 4) lX6_39 dX6_init_59 rfl (by decide) ⟨(Nat.le_of_ble_eq_true rfl), (Nat.le_of_ble_eq_true rfl)⟩ (fun e0 => ?_)
  refine wp_putF (q0 := 0) (ty1 := tyX6 5) fX6_41 dX6_init_62 rfl (fun q hq _ => by cases hq; exact ⟨rfl, tyX6_ok 5 (by decide), rfl⟩) rfl rfl rfl (Nat.le_of_ble_eq_true rfl) ?_
  refine wp_iconst (v := 0) dX6_init_65 rfl ?_
  refine wp_istore_1 dX6_init_66 (Nat.le_of_ble_eq_true rfl) rfl ?_
  have h := l_X6_init (κ := κ) (Q := Q) (a := a) (f1 := f1) (c1 := c1) (f2 := f2) (c2 := c2) (g := fun k => [p3, g1, g2, g3, g4].getD k 0) (t := fun k => [p4, t1, t2, t3, t4].getD k 0) (fun e => hQ _ _ _ _ _ _ e) 4 0 (fun _ => e0) rfl
  refine wp_cg ?_ h
  show _ = pre6 κ a f1 c1 f2 c2 _ _ e0 ++ [(e0, aQ κ 4 4 (sqF _ 0))]
  rw [show sqF (fun _ => e0) 0 = (fun _ => none) from funext fun j => if_neg (by omega)]
  rfl
