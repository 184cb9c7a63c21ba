/-! THE START: what the tables and the premises give -/
theorem arr_known {s : State} {args : Array Value} {ty : FieldType} (h : (Cond.arrayClass ty).before args s = true) : ∃ cA : ClassId, ArrOfT s cA ty ∧ s.vm.findClass ("[" ++ ty.toString) = some cA := by
  obtain ⟨c, k, comp, f1, f2, f3⟩ := Cond.arrayClass_spec h
  exact ⟨c, fun N z => ⟨(fun k h => by cases h), k, f2, comp, f3⟩, f1⟩
theorem arq_known {s : State} {args : Array Value} {C : String} (h : (Cond.arrayOver (.object C)).before args s = true) : ∃ cA : ClassId, ArrOfT s cA (.object C) ∧ va_RA s cA (.object C) := by
  obtain ⟨comp, c, k, h1, h2, h3, h4, h5⟩ := Cond.arrayOver_spec h
  exact ⟨c, fun N z => ⟨(fun k h => by cases h), k, h3, comp, h4⟩, k, comp, h3, h4, h1, h5⟩
set_option maxRecDepth 100000 in
set_option maxHeartbeats 4000000 in
theorem law_kn {s : State} {b : Nat} (l : Launch) (hts : ∀ w ∈ lw_tbl, w.before #[Value.ref b] s = true) (hgv : (Jvm.Cond.and given_1 narrow_1).before #[Value.ref b] s = true) : ∃ κ : KX, κ.1 = l ∧ kb κ = s.heap.size ∧ kH κ = s.heap ∧ KN κ s := by
  have hT : ∀ w ∈ TB, w.before #[Value.ref b] s = true := fun w hw => hts w (List.mem_filter.mp hw).1
  have hs := flat_of_before _ hgv
  have hA : ∀ a : Nat, a < s.heap.size → ¬ (fun q : Nat => s.heap.size ≤ q) a := fun a h => Nat.not_le.mpr h
  obtain ⟨c0, i0, k0⟩ := u_known (C := RX0) (T := TX0) (N := 5) (n := 5) hT laX0 (hT _ inX0)
  obtain ⟨c1, i1, k1⟩ := u_known (C := RX1) (T := TX1) (N := 3) (n := 3) hT laX1 (hT _ inX1)
  obtain ⟨c2, i2, k2⟩ := u_known (C := RX2) (T := TX2) (N := 4) (n := 4) hT laX2 (hT _ inX2)
  obtain ⟨c3, i3, k3⟩ := u_known (C := RX3) (T := TX3) (N := 6) (n := 6) hT laX3 (hT _ inX3)
  obtain ⟨c4, i4, k4⟩ := u_known (C := RX4) (T := TX4) (N := 7) (n := 7) hT laX4 (hT _ inX4)
  obtain ⟨c5, i5, k5⟩ := u_known (C := RX5) (T := TX5) (N := 8) (n := 8) hT laX5 (hT _ inX5)
  obtain ⟨c6, i6, k6⟩ := u_known (C := RX6) (T := TX6) (N := 6) (n := 6) hT laX6 (hT _ inX6)
  obtain ⟨c7, i7, k7⟩ := u_known (C := RX7) (T := TX7) (N := 13) (n := 13) hT laX7 (hT _ inX7)
  obtain ⟨a0, z0, n0⟩ := arr_known (hT _ ac_int)
  obtain ⟨a1, z1, n1⟩ := arr_known (hT _ ac_char)
  obtain ⟨a2, z2, n2⟩ := arr_known (hT _ ac_long)
  have o3 : (Cond.arrayOver (.object RX3)).before #[Value.ref b] s = true := hts _ (List.mem_of_getElem? (i := 96) (by decide +kernel))
  have o4 : (Cond.arrayOver (.object RX2)).before #[Value.ref b] s = true := hts _ (List.mem_of_getElem? (i := 201) (by decide +kernel))
  have hsr : (Cond.stringRef RX5 66 "psmda").before #[Value.ref b] s = true := hts _ (List.mem_of_getElem? (i := 359) (by decide +kernel))
  have hls : (Cond.laysStatic "java/lang/String" "COMPACT_STRINGS" "Z").before #[Value.ref b] s = true := hts _ (List.mem_of_getElem? (i := 373) (by decide +kernel))
  obtain ⟨a3, z3, n3⟩ := arq_known o3
  obtain ⟨a4, z4, n4⟩ := arq_known o4
  obtain ⟨adK, adV, hS, hK⟩ := vk_Sof (args := #[Value.ref b]) (s := s) (N := 1) (tm := fun _ => Term.string RX5 66) (len := [5]) (byt := [[112, 115, 109, 100, 97]]) (A := fun q : Nat => s.heap.size ≤ q)
    (fun i hi => by obtain rfl : i = 0 := by omega
                    decide)
    (fun i hi => hs (Cond.exactly (Term.string RX5 66) "java/lang/String") (by decide +kernel))
    (fun i hi => hs (Cond.eq (.field (Term.string RX5 66) "java/lang/String" "coder" "B") (.int 0)) (by decide +kernel))
    (fun i hi => hs (Cond.arrayOf (.field (Term.string RX5 66) "java/lang/String" "value" "[B") .byte) (by decide +kernel))
    (fun i hi => by obtain rfl : i = 0 := by omega
                    exact hs (Cond.eq (.length (.field (Term.string RX5 66) "java/lang/String" "value" "[B")) (.int 5)) (by decide +kernel))
    (fun i hi j hj => by
      obtain rfl : i = 0 := by omega
      match j, hj with
      | 0, _ => exact hs (Cond.eq (.elem (.field (Term.string RX5 66) "java/lang/String" "value" "[B") (.int 0)) (.int 112)) (by decide +kernel)
      | 1, _ => exact hs (Cond.eq (.elem (.field (Term.string RX5 66) "java/lang/String" "value" "[B") (.int 1)) (.int 115)) (by decide +kernel)
      | 2, _ => exact hs (Cond.eq (.elem (.field (Term.string RX5 66) "java/lang/String" "value" "[B") (.int 2)) (.int 109)) (by decide +kernel)
      | 3, _ => exact hs (Cond.eq (.elem (.field (Term.string RX5 66) "java/lang/String" "value" "[B") (.int 3)) (.int 100)) (by decide +kernel)
      | 4, _ => exact hs (Cond.eq (.elem (.field (Term.string RX5 66) "java/lang/String" "value" "[B") (.int 4)) (.int 97)) (by decide +kernel)
      | j + 5, h => exact absurd h (by show ¬ (j + 5 < 5); omega))
    (fun i j hi hj hij => absurd (by omega) hij) hA
  have hZ : va_Z "java/lang/String" "COMPACT_STRINGS" "Z" (.int 1) (fun q : Nat => s.heap.size ≤ q) s s.heap := va_Zof hls (hT _ iniJ0) (va_eqt (hs (Cond.eq (.static "java/lang/String" "COMPACT_STRINGS" "Z") (.int 1)) (by decide +kernel))) hA
  refine ⟨(l, (fun k => [c0, c1, c2, c3, c4, c5, c6, c7].getD k c0, fun k => [i0, i1, i2, i3, i4, i5, i6, i7].getD k i0), s.heap.size, s.heap, fun k => [a0, a1, a2, a3, a4].getD k a0, adK 0, adV 0, fun _ => 0), rfl, rfl, rfl, ⟨?_, ?_⟩, ?_, ?_, ?_, ?_, ?_, ?_⟩
  · intro k q hq
    match k, hq with
    | 0, hq => cases hq; exact k0
    | 1, hq => cases hq; exact k1
    | 2, hq => cases hq; exact k2
    | 3, hq => cases hq; exact k3
    | 4, hq => cases hq; exact k4
    | 5, hq => cases hq; exact k5
    | 6, hq => cases hq; exact k6
    | 7, hq => cases hq; exact k7
    | k + 8, hq => simp [vwCl] at hq
  · intro k q hq
    match k, hq with
    | 0, hq => cases hq; exact ⟨z0, n0⟩
    | 1, hq => cases hq; exact ⟨z1, n1⟩
    | 2, hq => cases hq; exact ⟨z2, n2⟩
    | 3, hq => cases hq; exact ⟨z3, n3⟩
    | 4, hq => cases hq; exact ⟨z4, n4⟩
    | k + 5, hq => simp [ktys] at hq
  · intro w hw
    obtain ⟨a, i, x, b', rfl⟩ := nest_shape hw
    exact va_Nw.of rfl (hts _ (List.mem_filter.mp hw).1)
  · exact vk_R.of hsr (hK 0 (by omega))
  · refine ⟨fun i hi => ?_, fun i j hi hj _ => by omega⟩
    obtain rfl : i = 0 := by omega
    exact hS.1 0 hi
  · exact hZ
  · exact va_AO.of o3
  · exact va_AO.of o4
