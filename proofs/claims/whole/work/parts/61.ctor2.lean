/-! the constructors -/
def bl0 : List Value := [.null, .null, .null, .null, .null]
theorem bl0_ok : ∀ j, j < 5 → defaultValue (tyX0 j) = vp_V bl0 j := by
  intro j hj
  match j, hj with
  | 0, _ => rfl
  | 1, _ => rfl
  | 2, _ => rfl
  | 3, _ => rfl
  | 4, _ => rfl
  | j + 5, h => exact absurd h (by omega)
def bl1 : List Value := [.null, .int 0, .int 0]
theorem bl1_ok : ∀ j, j < 3 → defaultValue (tyX1 j) = vp_V bl1 j := by
  intro j hj
  match j, hj with
  | 0, _ => rfl
  | 1, _ => rfl
  | 2, _ => rfl
  | j + 3, h => exact absurd h (by omega)
def bl2 : List Value := [.null, .int 0, .int 0, .int 0]
theorem bl2_ok : ∀ j, j < 4 → defaultValue (tyX2 j) = vp_V bl2 j := by
  intro j hj
  match j, hj with
  | 0, _ => rfl
  | 1, _ => rfl
  | 2, _ => rfl
  | 3, _ => rfl
  | j + 4, h => exact absurd h (by omega)
def bl3 : List Value := [.null, .null, .null, .null, .int 0, .int 0]
theorem bl3_ok : ∀ j, j < 6 → defaultValue (tyX3 j) = vp_V bl3 j := by
  intro j hj
  match j, hj with
  | 0, _ => rfl
  | 1, _ => rfl
  | 2, _ => rfl
  | 3, _ => rfl
  | 4, _ => rfl
  | 5, _ => rfl
  | j + 6, h => exact absurd h (by omega)
def bl4 : List Value := [.null, .null, .int 0, .int 0, .int 0, .null, .null]
theorem bl4_ok : ∀ j, j < 7 → defaultValue (tyX4 j) = vp_V bl4 j := by
  intro j hj
  match j, hj with
  | 0, _ => rfl
  | 1, _ => rfl
  | 2, _ => rfl
  | 3, _ => rfl
  | 4, _ => rfl
  | 5, _ => rfl
  | 6, _ => rfl
  | j + 7, h => exact absurd h (by omega)
def bl5 : List Value := [.null, .int 0, .null, .null, .null, .int 0, .int 0, .int 0]
theorem bl5_ok : ∀ j, j < 8 → defaultValue (tyX5 j) = vp_V bl5 j := by
  intro j hj
  match j, hj with
  | 0, _ => rfl
  | 1, _ => rfl
  | 2, _ => rfl
  | 3, _ => rfl
  | 4, _ => rfl
  | 5, _ => rfl
  | 6, _ => rfl
  | 7, _ => rfl
  | j + 8, h => exact absurd h (by omega)
def bl6 : List Value := [.null, .null, .int 0, .null, .null, .null]
theorem bl6_ok : ∀ j, j < 6 → defaultValue (tyX6 j) = vp_V bl6 j := by
  intro j hj
  match j, hj with
  | 0, _ => rfl
  | 1, _ => rfl
  | 2, _ => rfl
  | 3, _ => rfl
  | 4, _ => rfl
  | 5, _ => rfl
  | j + 6, h => exact absurd h (by omega)
def bl7 : List Value := [.null, .null, .null, .null, .int 0, .null, .int 0, .null, .null, .null, .int 0, .int 0, .int 0]
theorem bl7_ok : ∀ j, j < 13 → defaultValue (tyX7 j) = vp_V bl7 j := by
  intro j hj
  match j, hj with
  | 0, _ => rfl
  | 1, _ => rfl
  | 2, _ => rfl
  | 3, _ => rfl
  | 4, _ => rfl
  | 5, _ => rfl
  | 6, _ => rfl
  | 7, _ => rfl
  | 8, _ => rfl
  | 9, _ => rfl
  | 10, _ => rfl
  | 11, _ => rfl
  | 12, _ => rfl
  | j + 13, h => exact absurd h (by omega)
theorem wp_cg {κ : KX} {r : RM} {y : MD} {pc : Nat} {L : List (Option Value)} {st : List Value} {w w' : va_W} {ct : Nat × Nat} {Q : Option Value → va_W → Prop} (e : w = w') (h : WP κ r y pc L st w' ct Q) : WP κ r y pc L st w ct Q := e ▸ h
def aI (κ : KX) (n : Nat) : va_E := .inl (kc κ 0, n, .inl (fun _ => 0))
def aC (κ : KX) (n : Nat) : va_E := .inl (kc κ 1, n, .inl (fun _ => 0))
def aL (κ : KX) (n : Nat) : va_E := .inl (kc κ 2, n, .inr (.inl (fun _ => 0)))
def aQ (κ : KX) (t n : Nat) (f : Nat → Option Nat) : va_E := .inl (kc κ t, n, .inr (.inr (.inr (.inr f))))
def bST (κ : KX) (a b1 b2 b3 b4 : Nat) : va_W := [(a, .inr (3, [.ref b1, .ref b2, .ref b3, .ref b4, .int 0, .int 1])), (b1, aI κ 5), (b2, aI κ 5), (b3, aI κ 5), (b4, aI κ 6)]
def bOU (κ : KX) (a s b1 b2 b3 b4 : Nat) : va_W := [(a, .inr (0, [.ref s, .ref b1, .ref b2, .ref b3, .ref b4])), (b1, aI κ 5), (b2, aI κ 5), (b3, aI κ 5), (b4, aI κ 5)]
def bTA (κ : KX) (a b1 b2 b3 b4 : Nat) : va_W := [(a, .inr (5, [.ref b1, .int 0, .ref b2, .ref b3, .ref b4, .int 0, .int 2, .int 0])), (b1, aC κ 60), (b2, aI κ 6), (b3, aI κ 6), (b4, aI κ 5)]
def bSH1 (κ : KX) (a b : Nat) : va_W := [(a, .inr (2, [.ref b, .int 0, .int 0, .int 0])), (b, aL κ 24)]
def bSS (κ : KX) (c : Nat → Nat) : Nat → va_W
  | 0 => []
  | i + 1 => bSS κ c i ++ bST κ (c (2 + 5 * i)) (c (3 + 5 * i)) (c (4 + 5 * i)) (c (5 + 5 * i)) (c (6 + 5 * i))
def stF (c : Nat → Nat) (i j : Nat) : Option Nat := if j < i then some (c (2 + 5 * j)) else none
def bPA (κ : KX) (c : Nat → Nat) (i : Nat) : va_W := (c 0, .inr (1, [.ref (c 1), .int 0, .int 0])) :: (c 1, aQ κ 3 8 (stF c i)) :: bSS κ c i
def bSR (κ : KX) (f c : Nat → Nat) : va_W := (f 0, .inr (4, [.ref (f 1), .ref (f 2), .int 0, .int 12, .int 1, .ref (f 3), .ref (c 0)])) :: (f 1, aI κ 6) :: (f 2, aI κ 6) :: (bST κ (f 3) (f 4) (f 5) (f 6) (f 7) ++ bPA κ c 8)
theorem Qw {Q : Option Value → va_W → Prop} {v : Option Value} {w w' : va_W} (h : Q v w) (e : w = w') : Q v w' := e ▸ h
set_option maxRecDepth 100000 in
set_option maxHeartbeats 4000000 in
theorem c_X3_init0 {κ : KX} {Q : Option Value → va_W → Prop} {w0 : va_W} {a : Nat} (hQ : ∀ b1 b2 b3 b4, Q none (w0 ++ bST κ a b1 b2 b3 b4)) : CT κ (1, 4, 21) mX3_init [.ref a] (w0 ++ [(a, .inr (3, bl3))]) Q := by
  refine CT.of okX3_init [some (.ref a)] (Nat.le_of_ble_eq_true rfl) rfl ?_
  refine wp_aload_0 dX3_init_0 ?_
  refine wp_oinit kX3_3 dX3_init_1 (Nat.le_of_ble_eq_true rfl) (Nat.le_of_ble_eq_true rfl) ?_
  refine wp_aload_0 dX3_init_4 ?_
  refine wp_iconst (v := 5) dX3_init_5 rfl ?_
  refine wp_newI (N := 5) dX3_init_6 rfl (by decide) ⟨(Nat.le_of_ble_eq_true rfl), (Nat.le_of_ble_eq_true rfl)⟩ (fun b1 => ?_)
  refine wp_putF (q0 := 0) (ty1 := tyX3 0) fX3_9 dX3_init_8 rfl (fun q hq _ => by cases hq; exact ⟨rfl, tyX3_ok 0 (by decide), rfl⟩) rfl rfl rfl (Nat.le_of_ble_eq_true rfl) ?_
  refine wp_aload_0 dX3_init_11 ?_
  refine wp_iconst (v := 5) dX3_init_12 rfl ?_
  refine wp_newI (N := 5) dX3_init_13 rfl (by decide) ⟨(Nat.le_of_ble_eq_true rfl), (Nat.le_of_ble_eq_true rfl)⟩ (fun b2 => ?_)
  refine wp_putF (q0 := 0) (ty1 := tyX3 1) fX3_15 dX3_init_15 rfl (fun q hq _ => by cases hq; exact ⟨rfl, tyX3_ok 1 (by decide), rfl⟩) rfl rfl rfl (Nat.le_of_ble_eq_true rfl) ?_
  refine wp_aload_0 dX3_init_18 ?_
  refine wp_iconst (v := 5) dX3_init_19 rfl ?_
  refine wp_newI (N := 5) dX3_init_20 rfl (by decide) ⟨(Nat.le_of_ble_eq_true rfl), (Nat.le_of_ble_eq_true rfl)⟩ (fun b3 => ?_)
  refine wp_putF (q0 := 0) (ty1 := tyX3 2) fX3_18 dX3_init_22 rfl (fun q hq _ => by cases hq; exact ⟨rfl, tyX3_ok 2 (by decide), rfl⟩) rfl rfl rfl (Nat.le_of_ble_eq_true rfl) ?_
  refine wp_aload_0 dX3_init_25 ?_
  refine wp_bipush (v := 6) dX3_init_26 rfl ?_
  refine wp_newI (N := 6) dX3_init_28 rfl (by decide) ⟨(Nat.le_of_ble_eq_true rfl), (Nat.le_of_ble_eq_true rfl)⟩ (fun b4 => ?_)
  refine wp_putF (q0 := 0) (ty1 := tyX3 3) fX3_21 dX3_init_30 rfl (fun q hq _ => by cases hq; exact ⟨rfl, tyX3_ok 3 (by decide), rfl⟩) rfl rfl rfl (Nat.le_of_ble_eq_true rfl) ?_
  refine wp_aload_0 dX3_init_33 ?_
  refine wp_iconst (v := 0) dX3_init_34 rfl ?_
  refine wp_putG (q0 := 0) (ty1 := tyX3 4) fX3_24 dX3_init_35 rfl (fun q hq _ => by cases hq; exact ⟨rfl, tyX3_ok 4 (by decide), rfl⟩) rfl rfl rfl (Nat.le_of_ble_eq_true rfl) ?_
  refine wp_aload_0 dX3_init_38 ?_
  refine wp_iconst (v := 1) dX3_init_39 rfl ?_
  refine wp_putG (q0 := 0) (ty1 := tyX3 5) fX3_28 dX3_init_40 rfl (fun q hq _ => by cases hq; exact ⟨rfl, tyX3_ok 5 (by decide), rfl⟩) rfl rfl rfl (Nat.le_of_ble_eq_true rfl) ?_
  refine wp_vret dX3_init_43 rfl rfl ?_
  exact Qw (hQ b1 b2 b3 b4) rfl
theorem c_X3_init {κ : KX} {Q : Option Value → va_W → Prop} {w0 l : va_W} {a : Nat} (hQ : ∀ b1 b2 b3 b4, Q none (w0 ++ (l ++ bST κ a b1 b2 b3 b4))) : CT κ (1, 4, 21) mX3_init [.ref a] (w0 ++ (l ++ [(a, .inr (3, bl3))])) Q := by
  rw [← List.append_assoc]
  exact c_X3_init0 (fun b1 b2 b3 b4 => by rw [List.append_assoc]; exact hQ b1 b2 b3 b4)
set_option maxRecDepth 100000 in
set_option maxHeartbeats 4000000 in
theorem c_X0_init0 {κ : KX} {Q : Option Value → va_W → Prop} {w0 : va_W} {a s : Nat} (hQ : ∀ b1 b2 b3 b4, Q none (w0 ++ bOU κ a s b1 b2 b3 b4)) : CT κ (1, 4, 20) mX0_init [.ref a, .ref s] (w0 ++ [(a, .inr (0, bl0))]) Q := by
  refine CT.of okX0_init [some (.ref a), some (.ref s)] (Nat.le_of_ble_eq_true rfl) rfl ?_
  refine wp_aload_0 dX0_init_0 ?_
  refine wp_oinit kX0_3 dX0_init_1 (Nat.le_of_ble_eq_true rfl) (Nat.le_of_ble_eq_true rfl) ?_
  refine wp_aload_0 dX0_init_4 ?_
  refine wp_iconst (v := 5) dX0_init_5 rfl ?_
  refine wp_newI (N := 5) dX0_init_6 rfl (by decide) ⟨(Nat.le_of_ble_eq_true rfl), (Nat.le_of_ble_eq_true rfl)⟩ (fun b1 => ?_)
  refine wp_putF (q0 := 0) (ty1 := tyX0 1) fX0_9 dX0_init_8 rfl (fun q hq _ => by cases hq; exact ⟨rfl, tyX0_ok 1 (by decide), rfl⟩) rfl rfl rfl (Nat.le_of_ble_eq_true rfl) ?_
  refine wp_aload_0 dX0_init_11 ?_
  refine wp_iconst (v := 5) dX0_init_12 rfl ?_
  refine wp_newI (N := 5) dX0_init_13 rfl (by decide) ⟨(Nat.le_of_ble_eq_true rfl), (Nat.le_of_ble_eq_true rfl)⟩ (fun b2 => ?_)
  refine wp_putF (q0 := 0) (ty1 := tyX0 2) fX0_15 dX0_init_15 rfl (fun q hq _ => by cases hq; exact ⟨rfl, tyX0_ok 2 (by decide), rfl⟩) rfl rfl rfl (Nat.le_of_ble_eq_true rfl) ?_
  refine wp_aload_0 dX0_init_18 ?_
  refine wp_iconst (v := 5) dX0_init_19 rfl ?_
  refine wp_newI (N := 5) dX0_init_20 rfl (by decide) ⟨(Nat.le_of_ble_eq_true rfl), (Nat.le_of_ble_eq_true rfl)⟩ (fun b3 => ?_)
  refine wp_putF (q0 := 0) (ty1 := tyX0 3) fX0_18 dX0_init_22 rfl (fun q hq _ => by cases hq; exact ⟨rfl, tyX0_ok 3 (by decide), rfl⟩) rfl rfl rfl (Nat.le_of_ble_eq_true rfl) ?_
  refine wp_aload_0 dX0_init_25 ?_
  refine wp_iconst (v := 5) dX0_init_26 rfl ?_
  refine wp_newI (N := 5) dX0_init_27 rfl (by decide) ⟨(Nat.le_of_ble_eq_true rfl), (Nat.le_of_ble_eq_true rfl)⟩ (fun b4 => ?_)
  refine wp_putF (q0 := 0) (ty1 := tyX0 4) fX0_21 dX0_init_29 rfl (fun q hq _ => by cases hq; exact ⟨rfl, tyX0_ok 4 (by decide), rfl⟩) rfl rfl rfl (Nat.le_of_ble_eq_true rfl) ?_
  refine wp_aload_0 dX0_init_32 ?_
  refine wp_aload_1 dX0_init_33 ?_
  refine wp_putF (q0 := 0) (ty1 := tyX0 0) fX0_24 dX0_init_34 rfl (fun q hq _ => by cases hq; exact ⟨rfl, tyX0_ok 0 (by decide), rfl⟩) rfl rfl rfl (Nat.le_of_ble_eq_true rfl) ?_
  refine wp_vret dX0_init_37 rfl rfl ?_
  exact Qw (hQ b1 b2 b3 b4) rfl
theorem c_X0_init {κ : KX} {Q : Option Value → va_W → Prop} {w0 l : va_W} {a s : Nat} (hQ : ∀ b1 b2 b3 b4, Q none (w0 ++ (l ++ bOU κ a s b1 b2 b3 b4))) : CT κ (1, 4, 20) mX0_init [.ref a, .ref s] (w0 ++ (l ++ [(a, .inr (0, bl0))])) Q := by
  rw [← List.append_assoc]
  exact c_X0_init0 (fun b1 b2 b3 b4 => by rw [List.append_assoc]; exact hQ b1 b2 b3 b4)
set_option maxRecDepth 100000 in
set_option maxHeartbeats 4000000 in
theorem c_X5_init0 {κ : KX} {Q : Option Value → va_W → Prop} {w0 : va_W} {a : Nat} (hQ : ∀ b1 b2 b3 b4, Q none (w0 ++ bTA κ a b1 b2 b3 b4)) : CT κ (1, 4, 77) mX5_init [.ref a] (w0 ++ [(a, .inr (5, bl5))]) Q := by
  refine CT.of okX5_init [some (.ref a)] (Nat.le_of_ble_eq_true rfl) rfl ?_
  refine wp_aload_0 dX5_init_0 ?_
  refine wp_oinit kX5_3 dX5_init_1 (Nat.le_of_ble_eq_true rfl) (Nat.le_of_ble_eq_true rfl) ?_
  refine wp_aload_0 dX5_init_4 ?_
  refine wp_bipush (v := 60) dX5_init_5 rfl ?_
  refine wp_newC (N := 60) dX5_init_7 rfl (by decide) ⟨(Nat.le_of_ble_eq_true rfl), (Nat.le_of_ble_eq_true rfl)⟩ (fun b1 => ?_)
  refine wp_putF (q0 := 0) (ty1 := tyX5 0) fX5_9 dX5_init_9 rfl (fun q hq _ => by cases hq; exact ⟨rfl, tyX5_ok 0 (by decide), rfl⟩) rfl rfl rfl (Nat.le_of_ble_eq_true rfl) ?_
  refine wp_aload_0 dX5_init_12 ?_
  refine wp_iconst (v := 0) dX5_init_13 rfl ?_
  refine wp_putG (q0 := 0) (ty1 := tyX5 1) fX5_15 dX5_init_14 rfl (fun q hq _ => by cases hq; exact ⟨rfl, tyX5_ok 1 (by decide), rfl⟩) rfl rfl rfl (Nat.le_of_ble_eq_true rfl) ?_
  refine wp_aload_0 dX5_init_17 ?_
  refine wp_bipush (v := 6) dX5_init_18 rfl ?_
  refine wp_newI (N := 6) dX5_init_20 rfl (by decide) ⟨(Nat.le_of_ble_eq_true rfl), (Nat.le_of_ble_eq_true rfl)⟩ (fun b2 => ?_)
  refine wp_putF (q0 := 0) (ty1 := tyX5 2) fX5_19 dX5_init_22 rfl (fun q hq _ => by cases hq; exact ⟨rfl, tyX5_ok 2 (by decide), rfl⟩) rfl rfl rfl (Nat.le_of_ble_eq_true rfl) ?_
  refine wp_aload_0 dX5_init_25 ?_
  refine wp_bipush (v := 6) dX5_init_26 rfl ?_
  refine wp_newI (N := 6) dX5_init_28 rfl (by decide) ⟨(Nat.le_of_ble_eq_true rfl), (Nat.le_of_ble_eq_true rfl)⟩ (fun b3 => ?_)
  refine wp_putF (q0 := 0) (ty1 := tyX5 3) fX5_23 dX5_init_30 rfl (fun q hq _ => by cases hq; exact ⟨rfl, tyX5_ok 3 (by decide), rfl⟩) rfl rfl rfl (Nat.le_of_ble_eq_true rfl) ?_
  refine wp_aload_0 dX5_init_33 ?_
  refine wp_iconst (v := 5) dX5_init_34 rfl ?_
  refine wp_newI (N := 5) dX5_init_35 rfl (by decide) ⟨(Nat.le_of_ble_eq_true rfl), (Nat.le_of_ble_eq_true rfl)⟩ (fun b4 => ?_)
  refine wp_putF (q0 := 0) (ty1 := tyX5 4) fX5_26 dX5_init_37 rfl (fun q hq _ => by cases hq; exact ⟨rfl, tyX5_ok 4 (by decide), rfl⟩) rfl rfl rfl (Nat.le_of_ble_eq_true rfl) ?_
  refine wp_aload_0 dX5_init_40 ?_
  refine wp_iconst (v := 0) dX5_init_41 rfl ?_
  refine wp_putG (q0 := 0) (ty1 := tyX5 5) fX5_29 dX5_init_42 rfl (fun q hq _ => by cases hq; exact ⟨rfl, tyX5_ok 5 (by decide), rfl⟩) rfl rfl rfl (Nat.le_of_ble_eq_true rfl) ?_
  refine wp_aload_0 dX5_init_45 ?_
  refine wp_iconst (v := 2) dX5_init_46 rfl ?_
  refine wp_putG (q0 := 0) (ty1 := tyX5 6) fX5_32 dX5_init_47 rfl (fun q hq _ => by cases hq; exact ⟨rfl, tyX5_ok 6 (by decide), rfl⟩) rfl rfl rfl (Nat.le_of_ble_eq_true rfl) ?_
  refine wp_aload_0 dX5_init_50 ?_
  refine wp_iconst (v := 0) dX5_init_51 rfl ?_
  refine wp_putG (q0 := 0) (ty1 := tyX5 7) fX5_35 dX5_init_52 rfl (fun q hq _ => by cases hq; exact ⟨rfl, tyX5_ok 7 (by decide), rfl⟩) rfl rfl rfl (Nat.le_of_ble_eq_true rfl) ?_
  refine wp_vret dX5_init_55 rfl rfl ?_
  exact Qw (hQ b1 b2 b3 b4) rfl
theorem c_X5_init {κ : KX} {Q : Option Value → va_W → Prop} {w0 l : va_W} {a : Nat} (hQ : ∀ b1 b2 b3 b4, Q none (w0 ++ (l ++ bTA κ a b1 b2 b3 b4))) : CT κ (1, 4, 77) mX5_init [.ref a] (w0 ++ (l ++ [(a, .inr (5, bl5))])) Q := by
  rw [← List.append_assoc]
  exact c_X5_init0 (fun b1 b2 b3 b4 => by rw [List.append_assoc]; exact hQ b1 b2 b3 b4)
set_option maxRecDepth 100000 in
set_option maxHeartbeats 4000000 in
theorem c_X2_init0 {κ : KX} {Q : Option Value → va_W → Prop} {w0 : va_W} {a : Nat} (hQ : ∀ b1, Q none (w0 ++ bSH1 κ a b1)) : CT κ (1, 1, 24) mX2_init [.ref a] (w0 ++ [(a, .inr (2, bl2))]) Q := by
  refine CT.of okX2_init [some (.ref a)] (Nat.le_of_ble_eq_true rfl) rfl ?_
  refine wp_aload_0 dX2_init_0 ?_
  refine wp_oinit kX2_3 dX2_init_1 (Nat.le_of_ble_eq_true rfl) (Nat.le_of_ble_eq_true rfl) ?_
  refine wp_aload_0 dX2_init_4 ?_
  refine wp_bipush (v := 24) dX2_init_5 rfl ?_
  refine wp_newL (N := 24) dX2_init_7 rfl (by decide) ⟨(Nat.le_of_ble_eq_true rfl), (Nat.le_of_ble_eq_true rfl)⟩ (fun b1 => ?_)
  refine wp_putF (q0 := 0) (ty1 := tyX2 0) fX2_9 dX2_init_9 rfl (fun q hq _ => by cases hq; exact ⟨rfl, tyX2_ok 0 (by decide), rfl⟩) rfl rfl rfl (Nat.le_of_ble_eq_true rfl) ?_
  refine wp_aload_0 dX2_init_12 ?_
  refine wp_iconst (v := 0) dX2_init_13 rfl ?_
  refine wp_putG (q0 := 0) (ty1 := tyX2 1) fX2_15 dX2_init_14 rfl (fun q hq _ => by cases hq; exact ⟨rfl, tyX2_ok 1 (by decide), rfl⟩) rfl rfl rfl (Nat.le_of_ble_eq_true rfl) ?_
  refine wp_aload_0 dX2_init_17 ?_
  refine wp_iconst (v := 0) dX2_init_18 rfl ?_
  refine wp_putG (q0 := 0) (ty1 := tyX2 2) fX2_19 dX2_init_19 rfl (fun q hq _ => by cases hq; exact ⟨rfl, tyX2_ok 2 (by decide), rfl⟩) rfl rfl rfl (Nat.le_of_ble_eq_true rfl) ?_
  refine wp_aload_0 dX2_init_22 ?_
  refine wp_iconst (v := 0) dX2_init_23 rfl ?_
  refine wp_putG (q0 := 0) (ty1 := tyX2 3) fX2_23 dX2_init_24 rfl (fun q hq _ => by cases hq; exact ⟨rfl, tyX2_ok 3 (by decide), rfl⟩) rfl rfl rfl (Nat.le_of_ble_eq_true rfl) ?_
  refine wp_vret dX2_init_27 rfl rfl ?_
  exact Qw (hQ b1) rfl
theorem c_X2_init {κ : KX} {Q : Option Value → va_W → Prop} {w0 l : va_W} {a : Nat} (hQ : ∀ b1, Q none (w0 ++ (l ++ bSH1 κ a b1))) : CT κ (1, 1, 24) mX2_init [.ref a] (w0 ++ (l ++ [(a, .inr (2, bl2))])) Q := by
  rw [← List.append_assoc]
  exact c_X2_init0 (fun b1 => by rw [List.append_assoc]; exact hQ b1)
theorem bSS_len (κ : KX) (c : Nat → Nat) : ∀ i, (bSS κ c i).length = 5 * i
  | 0 => rfl
  | i + 1 => by
    rw [bSS, List.length_append, bSS_len κ c i]
    show 5 * i + 5 = 5 * (i + 1)
    omega
theorem bSS_cg {κ : KX} {c d : Nat → Nat} : ∀ i, (∀ k, k < 2 + 5 * i → c k = d k) → bSS κ c i = bSS κ d i
  | 0, _ => rfl
  | i + 1, h => by
    rw [bSS, bSS, bSS_cg i (fun k hk => h k (by omega)), h _ (by omega), h _ (by omega), h _ (by omega), h _ (by omega), h _ (by omega)]
def cUp (c : Nat → Nat) (n : Nat) (ds : List Nat) (k : Nat) : Nat := if k < n then c k else ds.getD (k - n) 0
theorem cUp_lo {c : Nat → Nat} {n k : Nat} {ds : List Nat} (h : k < n) : cUp c n ds k = c k := if_pos h
theorem cUp_hi {c : Nat → Nat} {n k j : Nat} {ds : List Nat} (h : k = n + j) : cUp c n ds k = ds.getD j 0 := by
  subst h
  rw [cUp, if_neg (by omega), Nat.add_sub_cancel_left]
theorem bPA_up {κ : KX} {c : Nat → Nat} {i b b1 b2 b3 b4 : Nat} : (bPA κ c i ++ bST κ b b1 b2 b3 b4).set 1 (c 1, aQ κ 3 8 (va_up (stF c i) i (some b))) = bPA κ (cUp c (2 + 5 * i) [b, b1, b2, b3, b4]) (i + 1) := by
  have e0 : cUp c (2 + 5 * i) [b, b1, b2, b3, b4] 0 = c 0 := cUp_lo (by omega)
  have e1 : cUp c (2 + 5 * i) [b, b1, b2, b3, b4] 1 = c 1 := cUp_lo (by omega)
  have e2 : cUp c (2 + 5 * i) [b, b1, b2, b3, b4] (2 + 5 * i) = b := cUp_hi (j := 0) (by omega)
  have e3 : cUp c (2 + 5 * i) [b, b1, b2, b3, b4] (3 + 5 * i) = b1 := cUp_hi (j := 1) (by omega)
  have e4 : cUp c (2 + 5 * i) [b, b1, b2, b3, b4] (4 + 5 * i) = b2 := cUp_hi (j := 2) (by omega)
  have e5 : cUp c (2 + 5 * i) [b, b1, b2, b3, b4] (5 + 5 * i) = b3 := cUp_hi (j := 3) (by omega)
  have e6 : cUp c (2 + 5 * i) [b, b1, b2, b3, b4] (6 + 5 * i) = b4 := cUp_hi (j := 4) (by omega)
  have eS : bSS κ (cUp c (2 + 5 * i) [b, b1, b2, b3, b4]) i = bSS κ c i := bSS_cg i (fun k hk => cUp_lo hk)
  have eF : va_up (stF c i) i (some b) = stF (cUp c (2 + 5 * i) [b, b1, b2, b3, b4]) (i + 1) := by
    funext j
    unfold va_up stF
    by_cases h : j = i
    · subst h
      rw [if_pos rfl, if_pos (by omega), e2]
    · rw [if_neg h]
      by_cases h2 : j < i
      · rw [if_pos h2, if_pos (by omega), cUp_lo (by omega)]
      · rw [if_neg h2, if_neg (by omega)]
  rw [eF]
  show (c 0, _) :: (c 1, _) :: (bSS κ c i ++ bST κ b b1 b2 b3 b4) = _
  rw [bPA, bSS, eS, e0, e1, e2, e3, e4, e5, e6]
set_option maxRecDepth 100000 in
set_option maxHeartbeats 4000000 in
theorem l_X1_init {κ : KX} {Q : Option Value → va_W → Prop} {w0 : va_W} {a : Nat} (hQ : ∀ c : Nat → Nat, c 0 = a → Q none (w0 ++ bPA κ c 8)) : ∀ n i (c : Nat → Nat), c 0 = a → i + n = 8 → WP κ (2, 41, 224) mX1_init 25 [some (.ref (c 0)), some (.int (nI i))] [] (w0 ++ bPA κ c i) (1 + 5 * i, 8 + 27 * i) Q := by
  intro n
  induction n with
  | zero =>
    intro i c hc hn
    have hi : i = 8 := hn
    subst hi
    refine wp_iload_1 dX1_init_25 ?_
    refine wp_bipush (v := 8) dX1_init_26 rfl ?_
    refine wp_icmp_ge (tgt := 50) dX1_init_28 rfl (fun _ => ?_) (fun q => absurd (nI_le (a := 8) (b := 8) (by omega) (by omega)) q)
    refine wp_vret dX1_init_50 rfl rfl ?_
    exact hQ c hc
  | succ n ih =>
    intro i c hc hn
    refine wp_iload_1 dX1_init_25 ?_
    refine wp_bipush (v := 8) dX1_init_26 rfl ?_
    refine wp_icmp_ge (tgt := 50) dX1_init_28 rfl (fun q => absurd q (nI_ge (b := 8) (by omega) (by omega))) (fun _ => ?_)
    refine wp_aload_0 dX1_init_31 ?_
    refine wp_getG (q0 := 0) fX1_11 dX1_init_32 rfl rfl ?_
    refine wp_iload_1 dX1_init_35 ?_
    refine wp_newO (q := (RX3, TX3, 6)) (c := 3) (fs := bl3) (ty := tyX3) lX1_9 inX3 iniX3 rfl tyX3_ok bl3_ok dX1_init_36 ⟨by show 1 + 5 * i + 1 ≤ 41; omega, by show 8 + 27 * i + 6 ≤ 224; omega⟩ (fun b => ?_)
    refine wp_dup_ref dX1_init_39 ?_
    refine wp_callIN (As := []) kX1_24 dX1_init_40 ⟨(Nat.le_of_ble_eq_true rfl), by show 1 + 5 * i + 1 + 4 ≤ 41; omega, by show 8 + 27 * i + 6 + 21 ≤ 224; omega⟩ rfl rfl (Nat.le_of_ble_eq_true rfl) (c_X3_init (fun b1 b2 b3 b4 => ?_))
    show WP κ (2, 41, 224) mX1_init 43 [some (.ref (c 0)), some (.int (nI i))] [.ref b, .int (nI i), .ref (c 1)] (w0 ++ (bPA κ c i ++ bST κ b b1 b2 b3 b4)) (1 + 5 * i + 1 + 4, 8 + 27 * i + 6 + 21) Q
    refine wp_aast3 (q0 := 1) (qk := 2 + 5 * i) (j := i) (N := 8) dX1_init_43 rfl (vs := [.ref b1, .ref b2, .ref b3, .ref b4, .int 0, .int 1]) ?_ rfl (by omega) (by decide) ?_
    · rw [List.getElem?_append_right (by show (bSS κ c i).length + 1 + 1 ≤ _; rw [bSS_len]; omega)]
      show (bST κ b b1 b2 b3 b4)[2 + 5 * i - ((bSS κ c i).length + 1 + 1)]? = _
      rw [bSS_len, show 2 + 5 * i - (5 * i + 1 + 1) = 0 by omega]
      rfl
    · rw [show (bPA κ c i ++ bST κ b b1 b2 b3 b4).set 1 (c 1, .inl (kc κ 3, 8, .inr (.inr (.inr (.inr (va_up (stF c i) i (some b))))))) = bPA κ (cUp c (2 + 5 * i) [b, b1, b2, b3, b4]) (i + 1) from bPA_up]
      refine wp_iinc_1 (v := nI (i + 1)) dX1_init_44 (nI_inc _) (Nat.le_of_ble_eq_true rfl) rfl ?_
      refine wp_goto (tgt := 25) dX1_init_47 rfl ?_
      have e0 : cUp c (2 + 5 * i) [b, b1, b2, b3, b4] 0 = c 0 := cUp_lo (by omega)
      have h := ih (i + 1) (cUp c (2 + 5 * i) [b, b1, b2, b3, b4]) (e0.trans hc) (by omega)
      rw [e0, show 1 + 5 * (i + 1) = 1 + 5 * i + 1 + 4 by omega, show 8 + 27 * (i + 1) = 8 + 27 * i + 6 + 21 by omega] at h
      exact h
set_option maxRecDepth 100000 in
set_option maxHeartbeats 4000000 in
theorem c_X1_init0 {κ : KX} {Q : Option Value → va_W → Prop} {w0 : va_W} {a : Nat} (hQ : ∀ c : Nat → Nat, c 0 = a → Q none (w0 ++ bPA κ c 8)) : CT κ (2, 41, 224) mX1_init [.ref a] (w0 ++ [(a, .inr (1, bl1))]) Q := by
  refine CT.of okX1_init [some (.ref a), none] (Nat.le_of_ble_eq_true rfl) rfl ?_
  refine wp_aload_0 dX1_init_0 ?_
  refine wp_oinit kX1_3 dX1_init_1 (Nat.le_of_ble_eq_true rfl) (Nat.le_of_ble_eq_true rfl) ?_
  refine wp_aload_0 dX1_init_4 ?_
  refine wp_bipush (v := 8) dX1_init_5 rfl ?_
  refine wp_newQ3 (N := 8) lX1_9 dX1_init_7 rfl (by decide) ⟨(Nat.le_of_ble_eq_true rfl), (Nat.le_of_ble_eq_true rfl)⟩ (fun b => ?_)
  refine wp_putF (q0 := 0) (ty1 := tyX1 0) fX1_11 dX1_init_10 rfl (fun q hq _ => by cases hq; exact ⟨rfl, tyX1_ok 0 (by decide), rfl⟩) rfl rfl rfl (Nat.le_of_ble_eq_true rfl) ?_
  refine wp_aload_0 dX1_init_13 ?_
  refine wp_iconst (v := 0) dX1_init_14 rfl ?_
  refine wp_putG (q0 := 0) (ty1 := tyX1 1) fX1_17 dX1_init_15 rfl (fun q hq _ => by cases hq; exact ⟨rfl, tyX1_ok 1 (by decide), rfl⟩) rfl rfl rfl (Nat.le_of_ble_eq_true rfl) ?_
  refine wp_aload_0 dX1_init_18 ?_
  refine wp_iconst (v := 0) dX1_init_19 rfl ?_
  refine wp_putG (q0 := 0) (ty1 := tyX1 2) fX1_21 dX1_init_20 rfl (fun q hq _ => by cases hq; exact ⟨rfl, tyX1_ok 2 (by decide), rfl⟩) rfl rfl rfl (Nat.le_of_ble_eq_true rfl) ?_
  refine wp_iconst (v := 0) dX1_init_23 rfl ?_
  refine wp_istore_1 dX1_init_24 (Nat.le_of_ble_eq_true rfl) rfl ?_
  have h := l_X1_init (κ := κ) (Q := Q) (w0 := w0) (a := a) hQ 8 0 (fun k => [a, b].getD k 0) rfl rfl
  refine wp_cg ?_ h
  refine congrArg (fun z => w0 ++ z) ?_
  show _ = [(a, .inr (1, [.ref b, .int 0, .int 0])), (b, aQ κ 3 8 (stF _ 0))]
  rw [show stF (fun k => [a, b].getD k 0) 0 = (fun _ => none) from funext fun j => if_neg (by omega)]
  rfl
theorem c_X1_init {κ : KX} {Q : Option Value → va_W → Prop} {w0 l : va_W} {a : Nat} (hQ : ∀ c : Nat → Nat, c 0 = a → Q none (w0 ++ (l ++ bPA κ c 8))) : CT κ (2, 41, 224) mX1_init [.ref a] (w0 ++ (l ++ [(a, .inr (1, bl1))])) Q := by
  rw [← List.append_assoc]
  exact c_X1_init0 (fun c hc => by rw [List.append_assoc]; exact hQ c hc)
set_option maxRecDepth 100000 in
set_option maxHeartbeats 4000000 in
theorem c_X4_init0 {κ : KX} {Q : Option Value → va_W → Prop} {w0 : va_W} {a : Nat} (hQ : ∀ f c : Nat → Nat, f 0 = a → Q none (w0 ++ bSR κ f c)) : CT κ (3, 49, 266) mX4_init [.ref a] (w0 ++ [(a, .inr (4, bl4))]) Q := by
  refine CT.of okX4_init [some (.ref a)] (Nat.le_of_ble_eq_true rfl) rfl ?_
  refine wp_aload_0 dX4_init_0 ?_
  refine wp_oinit kX4_3 dX4_init_1 (Nat.le_of_ble_eq_true rfl) (Nat.le_of_ble_eq_true rfl) ?_
  refine wp_aload_0 dX4_init_4 ?_
  refine wp_bipush (v := 6) dX4_init_5 rfl ?_
  refine wp_newI (N := 6) dX4_init_7 rfl (by decide) ⟨(Nat.le_of_ble_eq_true rfl), (Nat.le_of_ble_eq_true rfl)⟩ (fun b1 => ?_)
  refine wp_putF (q0 := 0) (ty1 := tyX4 0) fX4_9 dX4_init_9 rfl (fun q hq _ => by cases hq; exact ⟨rfl, tyX4_ok 0 (by decide), rfl⟩) rfl rfl rfl (Nat.le_of_ble_eq_true rfl) ?_
  refine wp_aload_0 dX4_init_12 ?_
  refine wp_bipush (v := 6) dX4_init_13 rfl ?_
  refine wp_newI (N := 6) dX4_init_15 rfl (by decide) ⟨(Nat.le_of_ble_eq_true rfl), (Nat.le_of_ble_eq_true rfl)⟩ (fun b2 => ?_)
  refine wp_putF (q0 := 0) (ty1 := tyX4 1) fX4_15 dX4_init_17 rfl (fun q hq _ => by cases hq; exact ⟨rfl, tyX4_ok 1 (by decide), rfl⟩) rfl rfl rfl (Nat.le_of_ble_eq_true rfl) ?_
  refine wp_aload_0 dX4_init_20 ?_
  refine wp_iconst (v := 0) dX4_init_21 rfl ?_
  refine wp_putG (q0 := 0) (ty1 := tyX4 2) fX4_18 dX4_init_22 rfl (fun q hq _ => by cases hq; exact ⟨rfl, tyX4_ok 2 (by decide), rfl⟩) rfl rfl rfl (Nat.le_of_ble_eq_true rfl) ?_
  refine wp_aload_0 dX4_init_25 ?_
  refine wp_bipush (v := 12) dX4_init_26 rfl ?_
  refine wp_putG (q0 := 0) (ty1 := tyX4 3) fX4_22 dX4_init_28 rfl (fun q hq _ => by cases hq; exact ⟨rfl, tyX4_ok 3 (by decide), rfl⟩) rfl rfl rfl (Nat.le_of_ble_eq_true rfl) ?_
  refine wp_aload_0 dX4_init_31 ?_
  refine wp_iconst (v := 1) dX4_init_32 rfl ?_
  refine wp_putG (q0 := 0) (ty1 := tyX4 4) fX4_25 dX4_init_33 rfl (fun q hq _ => by cases hq; exact ⟨rfl, tyX4_ok 4 (by decide), rfl⟩) rfl rfl rfl (Nat.le_of_ble_eq_true rfl) ?_
  refine wp_aload_0 dX4_init_36 ?_
  refine wp_newO (q := (RX3, TX3, 6)) (c := 3) (fs := bl3) (ty := tyX3) lX4_28 inX3 iniX3 rfl tyX3_ok bl3_ok dX4_init_37 ⟨(Nat.le_of_ble_eq_true rfl), (Nat.le_of_ble_eq_true rfl)⟩ (fun b3 => ?_)
  refine wp_dup_ref dX4_init_40 ?_
  refine wp_callIN (As := []) kX4_30 dX4_init_41 ⟨Nat.le_of_ble_eq_true rfl, Nat.le_of_ble_eq_true rfl, Nat.le_of_ble_eq_true rfl⟩ rfl rfl (Nat.le_of_ble_eq_true rfl) (c_X3_init (fun b4 b5 b6 b7 => ?_))
  show WP κ (3, 49, 266) mX4_init 44 [some (.ref a)] [.ref b3, .ref a] (w0 ++ _) _ Q
  refine wp_putF (q0 := 0) (ty1 := tyX4 5) fX4_31 dX4_init_44 rfl (fun q hq _ => by cases hq; exact ⟨rfl, tyX4_ok 5 (by decide), rfl⟩) rfl rfl rfl (Nat.le_of_ble_eq_true rfl) ?_
  refine wp_aload_0 dX4_init_47 ?_
  refine wp_newO (q := (RX1, TX1, 3)) (c := 1) (fs := bl1) (ty := tyX1) lX4_35 inX1 iniX1 rfl tyX1_ok bl1_ok dX4_init_48 ⟨(Nat.le_of_ble_eq_true rfl), (Nat.le_of_ble_eq_true rfl)⟩ (fun b8 => ?_)
  refine wp_dup_ref dX4_init_51 ?_
  refine wp_callI (As := []) kX4_37 dX4_init_52 ⟨Nat.le_of_ble_eq_true rfl, Nat.le_of_ble_eq_true rfl, Nat.le_of_ble_eq_true rfl⟩ rfl rfl (Nat.le_of_ble_eq_true rfl) (c_X1_init (fun c hc => ?_))
  subst hc
  show WP κ (3, 49, 266) mX4_init 55 [some (.ref a)] [.ref (c 0), .ref a] (w0 ++ _) _ Q
  refine wp_putF (q0 := 0) (ty1 := tyX4 6) fX4_38 dX4_init_55 rfl (fun q hq _ => by cases hq; exact ⟨rfl, tyX4_ok 6 (by decide), rfl⟩) rfl rfl rfl (Nat.le_of_ble_eq_true rfl) ?_
  refine wp_vret dX4_init_58 rfl rfl ?_
  exact Qw (hQ (fun k => [a, b1, b2, b3, b4, b5, b6, b7].getD k 0) c rfl) rfl
theorem c_X4_init {κ : KX} {Q : Option Value → va_W → Prop} {w0 l : va_W} {a : Nat} (hQ : ∀ f c : Nat → Nat, f 0 = a → Q none (w0 ++ (l ++ bSR κ f c))) : CT κ (3, 49, 266) mX4_init [.ref a] (w0 ++ (l ++ [(a, .inr (4, bl4))])) Q := by
  rw [← List.append_assoc]
  exact c_X4_init0 (fun f c hc => by rw [List.append_assoc]; exact hQ f c hc)
