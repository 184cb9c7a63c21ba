/-! the constructor of the reference; the world whole -/
def szm (M : MM) : Nat → MM
  | 0 => M
  | j + 1 => sI (szm M j) 127 j (-1)
def ini7 (M : MM) : MM := szm (rI M 121 (bgF (M.1 121) 12 1 1)) 4
set_option maxRecDepth 100000 in
set_option maxHeartbeats 4000000 in
theorem l_X7_init {κ : KX} {M : MM} {Q : Option Value → va_W → Prop}   (hx : WP κ (2, 8, 1056) mX7_init 101 [some (rv κ 120), some (.int (nI 4))] [] (wM κ (szm M 4)) (8, 1056) Q) : ∀ n j, j + n = 4 → WP κ (2, 8, 1056) mX7_init 83 [some (rv κ 120), some (.int (nI j))] [] (wM κ (szm M j)) (8, 1056) Q := by
  intro n
  induction n with
  | zero =>
    intro j hn
    have hn : j = 4 := hn
    refine wp_iload_1 dX7_init_83 ?_
    refine wp_iconst (v := 4) dX7_init_84 rfl ?_
    refine wp_icmp_ge (tgt := 101) dX7_init_85 rfl (fun c85 => ?_) (fun c85 => absurd (nI_le (a := 4) (by omega) (by omega)) c85)
    subst hn
    exact hx
  | succ n ih =>
    intro j hn
    refine wp_iload_1 dX7_init_83 ?_
    refine wp_iconst (v := 4) dX7_init_84 rfl ?_
    refine wp_icmp_ge (tgt := 101) dX7_init_85 rfl (fun c85 => absurd c85 (nI_ge (b := 4) (by omega) (by omega))) (fun c85 => ?_)
    refine wp_rload_0 dX7_init_88 ?_
    refine wp_getR (t := 127) fX7_28 dX7_init_89 kd_120 rfl (rf_120_8) ?_
    refine wp_iload_1 dX7_init_92 ?_
    refine wp_iconst (v := (-1)) dX7_init_93 rfl ?_
    refine wp_ast (j := j) dX7_init_94 ar_127 (rfl) (by omega) ?_
    refine wp_iinc_1 (v := nI (j + 1)) dX7_init_95 (nI_inc _) (Nat.le_of_ble_eq_true rfl) rfl ?_
    refine wp_goto (tgt := 83) dX7_init_98 rfl ?_
    exact ih (j + 1) (by omega)
set_option maxRecDepth 100000 in
set_option maxHeartbeats 4000000 in
theorem x_X7_init {κ : KX} {M : MM} {Q : Option Value → va_W → Prop} (hQ : Q none (wM κ (ini7 M))) : WP κ (2, 8, 1056) mX7_init 70 [some (rv κ 120), none] [] (wM κ M) (8, 1056) Q := by
  refine wp_rI 121 ?_
  refine wp_rload_0 dX7_init_70 ?_
  refine wp_getR (t := 121) fX7_7 dX7_init_71 kd_120 rfl (rf_120_0) ?_
  refine wp_bipush (v := 12) dX7_init_74 rfl ?_
  refine wp_iconst (v := 1) dX7_init_76 rfl ?_
  refine wp_iconst (v := 1) dX7_init_77 rfl ?_
  refine wp_callS_4 kX7_35 dX7_init_78 (c_X7_begins (k := 121) ar_121 ?_) ⟨Nat.le_of_ble_eq_true rfl, Nat.le_of_ble_eq_true rfl, Nat.le_of_ble_eq_true rfl⟩ (Nat.le_of_ble_eq_true rfl)
  refine wp_iconst (v := 0) dX7_init_81 rfl ?_
  refine wp_istore_1 dX7_init_82 (Nat.le_of_ble_eq_true rfl) rfl ?_
  refine l_X7_init (M := rI M 121 (bgF (M.1 121) 12 1 1)) ?_ 4 0 (by omega)
  refine wp_vret dX7_init_101 rfl rfl ?_
  exact hQ
def M00 : MM := (fun k j => match kd k with
  | 3 => if j = 5 then 1 else 0
  | 4 => if j = 3 then 12 else if j = 4 then 1 else 0
  | 5 => if j = 6 then 2 else 0
  | _ => 0, fun _ _ => 0)
def kaF (a : Nat) (f1 c1 f2 c2 g t e d : Nat → Nat) (k : Nat) : Nat := if k < 1 then a else if k < 9 then f1 (k - 1) else if k < 51 then c1 (k - 9) else if k < 59 then f2 (k - 51) else if k < 101 then c2 (k - 59) else if k < 106 then g (k - 101) else if k < 111 then t (k - 106) else if k < 120 then e (k - 111) else d (k - 120)
def bMD (κ : KX) (d : Nat → Nat) : va_W := [(d 0, .inr (7, [.ref (d 1), .ref (d 2), .ref (d 3), .ref (d 4), .int 0, .ref (d 5), .int 0, .ref (d 6), .ref (d 7), .ref (d 8), .int 0, .int 0, .int 0])), (d 1, aI κ 223), (d 2, aI κ 223), (d 3, aI κ 223), (d 4, aI κ 223), (d 5, aI κ 60), (d 6, aI κ 4), (d 7, aI κ 4), (d 8, aL κ 96)]
set_option maxRecDepth 100000 in
set_option maxHeartbeats 4000000 in
theorem world_eq (κ : KX) (a : Nat) (f1 c1 f2 c2 g t e d : Nat → Nat) : (((bQW κ a f1 c1 f2 c2 g t e ++ bMD κ d).set 10 (c1 1, aQ (kset κ (kaF a f1 c1 f2 c2 g t e d)) 3 8 (fun j => some (ka (kset κ (kaF a f1 c1 f2 c2 g t e d)) (rf 10 j))))).set 60 (c2 1, aQ (kset κ (kaF a f1 c1 f2 c2 g t e d)) 3 8 (fun j => some (ka (kset κ (kaF a f1 c1 f2 c2 g t e d)) (rf 60 j))))).set 111 (e 0, aQ (kset κ (kaF a f1 c1 f2 c2 g t e d)) 4 4 (fun j => some (ka (kset κ (kaF a f1 c1 f2 c2 g t e d)) (rf 111 j)))) = wM (kset κ (kaF a f1 c1 f2 c2 g t e d)) M00 := rfl
set_option maxRecDepth 100000 in
set_option maxHeartbeats 4000000 in
theorem wp_world {κ : KX} {r : RM} {y : MD} {pc : Nat} {L : List (Option Value)} {st : List Value} {ct : Nat × Nat} {Q : Option Value → va_W → Prop} {a : Nat} {f1 c1 f2 c2 g t e d : Nat → Nat} (h : WP (kset κ (kaF a f1 c1 f2 c2 g t e d)) r y pc L st (wM (kset κ (kaF a f1 c1 f2 c2 g t e d)) M00) ct Q) : WP κ r y pc L st (bQW κ a f1 c1 f2 c2 g t e ++ bMD κ d) ct Q := by
  refine wp_kset (a := kaF a f1 c1 f2 c2 g t e d) ?_
  refine wp_cg (List.nil_append _).symm ?_
  refine wp_rows (q0 := 10) (a := c1 1) (N := 8) (g := fun j => some (ka (kset κ (kaF a f1 c1 f2 c2 g t e d)) (rf 10 j))) rfl (fun j hj => ?_) ?_
  · match j, hj with
    | 0, _ => rfl
    | 1, _ => rfl
    | 2, _ => rfl
    | 3, _ => rfl
    | 4, _ => rfl
    | 5, _ => rfl
    | 6, _ => rfl
    | 7, _ => rfl
    | j + 8, h => exact absurd h (by omega)
  refine wp_rows (q0 := 60) (a := c2 1) (N := 8) (g := fun j => some (ka (kset κ (kaF a f1 c1 f2 c2 g t e d)) (rf 60 j))) rfl (fun j hj => ?_) ?_
  · match j, hj with
    | 0, _ => rfl
    | 1, _ => rfl
    | 2, _ => rfl
    | 3, _ => rfl
    | 4, _ => rfl
    | 5, _ => rfl
    | 6, _ => rfl
    | 7, _ => rfl
    | j + 8, h => exact absurd h (by omega)
  refine wp_rows (q0 := 111) (a := e 0) (N := 4) (g := fun j => some (ka (kset κ (kaF a f1 c1 f2 c2 g t e d)) (rf 111 j))) rfl (fun j hj => ?_) ?_
  · match j, hj with
    | 0, _ => rfl
    | 1, _ => rfl
    | 2, _ => rfl
    | 3, _ => rfl
    | j + 4, h => exact absurd h (by omega)
  exact wp_cg (world_eq κ a f1 c1 f2 c2 g t e d) h
set_option maxRecDepth 100000 in
set_option maxHeartbeats 4000000 in
theorem c_X7_init {κ : KX} {Q : Option Value → va_W → Prop} {a b : Nat} {f1 c1 f2 c2 g t e : Nat → Nat} (hQ : ∀ d : Nat → Nat, d 0 = b → Q none (wM (kset κ (kaF a f1 c1 f2 c2 g t e d)) (ini7 M00))) : CT κ (2, 8, 1056) mX7_init [.ref b] (bQW κ a f1 c1 f2 c2 g t e ++ [(b, .inr (7, bl7))]) Q := by
  refine CT.of okX7_init [some (.ref b), none] (Nat.le_of_ble_eq_true rfl) rfl ?_
  refine wp_aload_0 dX7_init_0 ?_
  refine wp_oinit kX7_1 dX7_init_1 (Nat.le_of_ble_eq_true rfl) (Nat.le_of_ble_eq_true rfl) ?_
  refine wp_aload_0 dX7_init_4 ?_
  refine wp_sipush (v := 223) dX7_init_5 rfl ?_
  refine wp_newI (N := 223) dX7_init_8 rfl (by decide) ⟨(Nat.le_of_ble_eq_true rfl), (Nat.le_of_ble_eq_true rfl)⟩ (fun d1 => ?_)
  refine wp_putF (q0 := 0) (ty1 := tyX7 0) fX7_7 dX7_init_10 rfl (fun q hq _ => by cases hq; exact ⟨rfl, tyX7_ok 0 (by decide), rfl⟩) rfl rfl rfl (Nat.le_of_ble_eq_true rfl) ?_
  refine wp_aload_0 dX7_init_13 ?_
  refine wp_sipush (v := 223) dX7_init_14 rfl ?_
  refine wp_newI (N := 223) dX7_init_17 rfl (by decide) ⟨(Nat.le_of_ble_eq_true rfl), (Nat.le_of_ble_eq_true rfl)⟩ (fun d2 => ?_)
  refine wp_putF (q0 := 0) (ty1 := tyX7 1) fX7_13 dX7_init_19 rfl (fun q hq _ => by cases hq; exact ⟨rfl, tyX7_ok 1 (by decide), rfl⟩) rfl rfl rfl (Nat.le_of_ble_eq_true rfl) ?_
  refine wp_aload_0 dX7_init_22 ?_
  refine wp_sipush (v := 223) dX7_init_23 rfl ?_
  refine wp_newI (N := 223) dX7_init_26 rfl (by decide) ⟨(Nat.le_of_ble_eq_true rfl), (Nat.le_of_ble_eq_true rfl)⟩ (fun d3 => ?_)
  refine wp_putF (q0 := 0) (ty1 := tyX7 2) fX7_16 dX7_init_28 rfl (fun q hq _ => by cases hq; exact ⟨rfl, tyX7_ok 2 (by decide), rfl⟩) rfl rfl rfl (Nat.le_of_ble_eq_true rfl) ?_
  refine wp_aload_0 dX7_init_31 ?_
  refine wp_sipush (v := 223) dX7_init_32 rfl ?_
  refine wp_newI (N := 223) dX7_init_35 rfl (by decide) ⟨(Nat.le_of_ble_eq_true rfl), (Nat.le_of_ble_eq_true rfl)⟩ (fun d4 => ?_)
  refine wp_putF (q0 := 0) (ty1 := tyX7 3) fX7_19 dX7_init_37 rfl (fun q hq _ => by cases hq; exact ⟨rfl, tyX7_ok 3 (by decide), rfl⟩) rfl rfl rfl (Nat.le_of_ble_eq_true rfl) ?_
  refine wp_aload_0 dX7_init_40 ?_
  refine wp_bipush (v := 60) dX7_init_41 rfl ?_
  refine wp_newI (N := 60) dX7_init_43 rfl (by decide) ⟨(Nat.le_of_ble_eq_true rfl), (Nat.le_of_ble_eq_true rfl)⟩ (fun d5 => ?_)
  refine wp_putF (q0 := 0) (ty1 := tyX7 5) fX7_22 dX7_init_45 rfl (fun q hq _ => by cases hq; exact ⟨rfl, tyX7_ok 5 (by decide), rfl⟩) rfl rfl rfl (Nat.le_of_ble_eq_true rfl) ?_
  refine wp_aload_0 dX7_init_48 ?_
  refine wp_iconst (v := 4) dX7_init_49 rfl ?_
  refine wp_newI (N := 4) dX7_init_50 rfl (by decide) ⟨(Nat.le_of_ble_eq_true rfl), (Nat.le_of_ble_eq_true rfl)⟩ (fun d6 => ?_)
  refine wp_putF (q0 := 0) (ty1 := tyX7 7) fX7_25 dX7_init_52 rfl (fun q hq _ => by cases hq; exact ⟨rfl, tyX7_ok 7 (by decide), rfl⟩) rfl rfl rfl (Nat.le_of_ble_eq_true rfl) ?_
  refine wp_aload_0 dX7_init_55 ?_
  refine wp_iconst (v := 4) dX7_init_56 rfl ?_
  refine wp_newI (N := 4) dX7_init_57 rfl (by decide) ⟨(Nat.le_of_ble_eq_true rfl), (Nat.le_of_ble_eq_true rfl)⟩ (fun d7 => ?_)
  refine wp_putF (q0 := 0) (ty1 := tyX7 8) fX7_28 dX7_init_59 rfl (fun q hq _ => by cases hq; exact ⟨rfl, tyX7_ok 8 (by decide), rfl⟩) rfl rfl rfl (Nat.le_of_ble_eq_true rfl) ?_
  refine wp_aload_0 dX7_init_62 ?_
  refine wp_bipush (v := 96) dX7_init_63 rfl ?_
  refine wp_newL (N := 96) dX7_init_65 rfl (by decide) ⟨(Nat.le_of_ble_eq_true rfl), (Nat.le_of_ble_eq_true rfl)⟩ (fun d8 => ?_)
  refine wp_putF (q0 := 0) (ty1 := tyX7 9) fX7_31 dX7_init_67 rfl (fun q hq _ => by cases hq; exact ⟨rfl, tyX7_ok 9 (by decide), rfl⟩) rfl rfl rfl (Nat.le_of_ble_eq_true rfl) ?_
  refine wp_cg (show _ = bQW κ a f1 c1 f2 c2 g t e ++ bMD κ (fun k => [b, d1, d2, d3, d4, d5, d6, d7, d8].getD k 0) from rfl) ?_
  refine wp_world ?_
  exact x_X7_init (hQ (fun k => [b, d1, d2, d3, d4, d5, d6, d7, d8].getD k 0) rfl)
