/-! THE LAW: from its entry -/
set_option maxRecDepth 100000 in
set_option maxHeartbeats 4000000 in
theorem law_body {κ : KX} {b N : Nat} {xs : Nat → Int32} (hb : b < kb κ) (h4 : N ≤ 448) : WL (ZS b N xs) κ (12, 600000, 7302250) mL_law 0 [some (.ref b), none, none, none] [] ([] ++ []) (0, 0) (fun v _ => v = some (.int 1)) := by
  refine wl_newO (w0 := []) (l := []) (q := (RX6, TX6, 6)) (c := 6) (fs := bl6) (ty := tyX6) lL_7 inX6 iniX6 rfl tyX6_ok bl6_ok dL_law_0 ⟨(Nat.le_of_ble_eq_true rfl), (Nat.le_of_ble_eq_true rfl)⟩ (fun a => ?_)
  refine wl_dup_ref dL_law_3 ?_
  refine wl_callI (As := []) kL_9 dL_law_4 ⟨Nat.le_of_ble_eq_true rfl, Nat.le_of_ble_eq_true rfl, Nat.le_of_ble_eq_true rfl⟩ rfl rfl (Nat.le_of_ble_eq_true rfl) (c_X6_init (fun f1 c1 f2 c2 g t e => ?_))
  show WL (ZS b N xs) κ (12, 600000, 7302250) mL_law 7 [some (.ref b), none, none, none] [.ref a] (bQW κ a f1 c1 f2 c2 g t e) (120, 778) (fun v _ => v = some (.int 1))
  refine wl_astore_1 dL_law_7 (Nat.le_of_ble_eq_true rfl) rfl ?_
  refine wl_cg (List.append_nil _).symm ?_
  refine wl_newO (w0 := bQW κ a f1 c1 f2 c2 g t e) (l := []) (q := (RX7, TX7, 13)) (c := 7) (fs := bl7) (ty := tyX7) lL_10 inX7 iniX7 rfl tyX7_ok bl7_ok dL_law_8 ⟨(Nat.le_of_ble_eq_true rfl), (Nat.le_of_ble_eq_true rfl)⟩ (fun d0 => ?_)
  refine wl_dup_ref dL_law_11 ?_
  refine wl_callI (As := []) kL_12 dL_law_12 ⟨Nat.le_of_ble_eq_true rfl, Nat.le_of_ble_eq_true rfl, Nat.le_of_ble_eq_true rfl⟩ rfl rfl (Nat.le_of_ble_eq_true rfl) (c_X7_init (fun d hd => ?_))
  subst hd
  show WL (ZS b N xs) κ (12, 600000, 7302250) mL_law 15 [some (.ref b), some (.ref a), none, none] [.ref (d 0)] (wM (kset κ (kaF a f1 c1 f2 c2 g t e d)) (ini7 M00)) (129, 1847) (fun v _ => v = some (.int 1))
  refine wl_astore_2 dL_law_15 (Nat.le_of_ble_eq_true rfl) rfl ?_
  refine wl_iconst (v := 0) dL_law_16 rfl ?_
  refine wl_istore_3 dL_law_17 (Nat.le_of_ble_eq_true rfl) rfl ?_
  refine wl_kset (a := kaF a f1 c1 f2 c2 g t e d) ?_
  exact law_loop (κ := (kset κ (kaF a f1 c1 f2 c2 g t e d))) (Q := fun v _ => v = some (.int 1)) hb h4 (fun _ => rfl) N 0 (ini7 M00) rel_ini (by omega) (by omega)
