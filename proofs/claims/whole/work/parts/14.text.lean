/-! the constant text "psmda", and where a letter stands in it -/
theorem fJ0_38 : Cond.fieldLink RJ0 38 "java/lang/String" "COMPACT_STRINGS" "Z" ∈ TB := TB_mem 372 (by decide +kernel) (by decide +kernel)
theorem fJ0_15 : Cond.fieldLink RJ0 15 "java/lang/String" "coder" "B" ∈ TB := TB_mem 1066 (by decide +kernel) (by decide +kernel)
theorem fJ0_9 : Cond.fieldLink RJ0 9 "java/lang/String" "value" "[B" ∈ TB := TB_mem 1067 (by decide +kernel) (by decide +kernel)
section WPS
variable {κ : KX} {r r' : RM} {y y' : MD} {pc n : Nat} {L : List (Option Value)} {st : List Value} {w : va_W} {ct : Nat × Nat} {Q : Option Value → va_W → Prop}
def sby (j : Nat) : Int32 := [112, 115, 109, 100, 97].getD j 0
theorem ks_at {p : Program} {R : Room} {s : State} {m : MethodId} {args : Array Value} {meth : Method} {c : Code} (C : Cx κ r y p R s m args meth c) : vk_S 1 [5] [[112, 115, 109, 100, 97]] (fun _ => ksK κ) (fun _ => ksV κ) (kA κ) s s.heap :=
  C.2.2.2.2.2.2.2.2.2.1.2.2.2.1.kept (fun a _ h2 => C.2.2.2.2.2.2.2.2.2.2.2 a (Nat.not_le.mp h2))
theorem wp_ldcS (d : St y pc (.ldc 66) 2 n) (k : WP κ r y n L (.ref (ksK κ) :: st) w ct Q) (hy : y.1.cls = RX5 := by rfl) : WP κ r y pc L st w ct Q := by
  obtain ⟨hd, rfl⟩ := d
  intro p e R s m args below meth c H locs ls C hl hH hS
  exact va_ldcS (own := RX5) C.1 C.2.1 (by rw [← hy]; exact C.2.2.2.1) C.2.2.2.2.2.2.2.2.2.1.2.2.1 hd (k p e R s m args below meth c H locs ls C hl hH hS)
theorem wp_cmp {i : Nat} (f : Cond.fieldLink y.1.cls i "java/lang/String" "COMPACT_STRINGS" "Z" ∈ TB) (d : St y pc (.getstatic i) 3 n) (k : WP κ r y n L (.int 1 :: st) w ct Q) : WP κ r y pc L st w ct Q := by
  obtain ⟨hd, rfl⟩ := d
  intro p e R s m args below meth c H locs ls C hl hH hS
  have hZ := C.2.2.2.2.2.2.2.2.2.1.2.2.2.2.1.kept (H1 := s.heap) (fun a _ h2 => C.2.2.2.2.2.2.2.2.2.2.2 a (Nat.not_le.mp h2))
  exact va_gets C.1 C.2.1 hZ hS C.2.2.2.1 (C.2.2.2.2.1 _ f) (fun _ h => h) hd (k p e R s m args below meth c H locs ls C hl hH hS)
theorem wp_sval {i : Nat} (f : Cond.fieldLink y.1.cls i "java/lang/String" "value" "[B" ∈ TB) (d : St y pc (.getfield i) 3 n) (k : WP κ r y n L (.ref (ksV κ) :: st) w ct Q) : WP κ r y pc L (.ref (ksK κ) :: st) w ct Q := by
  obtain ⟨hd, rfl⟩ := d
  intro p e R s m args below meth c H locs ls C hl hH hS
  exact vk_getf C.1 C.2.1 ((ks_at C).1 0 (by decide)).2.2.1 hS C.2.2.2.1 (C.2.2.2.2.1 _ f) (fun _ h => h) hd (k p e R s m args below meth c H locs ls C hl hH hS)
theorem wp_scod {i : Nat} (f : Cond.fieldLink y.1.cls i "java/lang/String" "coder" "B" ∈ TB) (d : St y pc (.getfield i) 3 n) (k : WP κ r y n L (.int 0 :: st) w ct Q) : WP κ r y pc L (.ref (ksK κ) :: st) w ct Q := by
  obtain ⟨hd, rfl⟩ := d
  intro p e R s m args below meth c H locs ls C hl hH hS
  exact vk_getf C.1 C.2.1 ((ks_at C).1 0 (by decide)).2.1 hS C.2.2.2.1 (C.2.2.2.2.1 _ f) (fun _ h => h) hd (k p e R s m args below meth c H locs ls C hl hH hS)
theorem wp_slen (d : St y pc (.arraylength) 1 n) (k : WP κ r y n L (.int 5 :: st) w ct Q) : WP κ r y pc L (.ref (ksV κ) :: st) w ct Q := by
  obtain ⟨hd, rfl⟩ := d
  intro p e R s m args below meth c H locs ls C hl hH hS
  exact va_tlen C.1 C.2.1 ((ks_at C).1 0 (by decide)).2.2.2 hS rfl hd (k p e R s m args below meth c H locs ls C hl hH hS)
theorem wp_sbald {j : Nat} {x : Int32} (d : St y pc (.baload) 1 n) (hx : x = nI j) (hj : j < 5) (k : WP κ r y n L (.int (sby j) :: st) w ct Q) : WP κ r y pc L (.int x :: .ref (ksV κ) :: st) w ct Q := by
  obtain ⟨hd, rfl⟩ := d
  subst hx
  intro p e R s m args below meth c H locs ls C hl hH hS
  exact va_tb C.1 C.2.1 ((ks_at C).1 0 (by decide)).2.2.2 hS (vp_in_nI (N := 5) hj (by decide)) (by rw [nI_clamp (by omega)]; rfl) hd (k p e R s m args below meth c H locs ls C hl hH hS)
theorem wp_callVS {i na : Nat} {As : List Value} {stk : List Value} (f : CV y.1.cls i y' na) (d : St y pc (.invokevirtual i) 3 n) (hc : y'.1.cls = "java/lang/String") (lv : Lev r r' ct) (hn : As.length = na) (hst : stk = As.reverse ++ .ref (ksK κ) :: st) (hcat : (st.map fun v => v.category).sum ≤ 8) (h : CT κ r' y' (.ref (ksK κ) :: As) w (fun v w' => WP κ r y n L (psh v st) w' (ct.1 + r'.2.1, ct.2 + r'.2.2) Q)) : WP κ r y pc L stk w ct Q := by
  obtain ⟨hd, rfl⟩ := d
  intro p e R s m args below meth cd H locs ls C hl hH hS
  have hR := C.2.2.2.2.2.1
  have hrc : ∃ cellB : Cell, H[ksK κ]? = some cellB ∧ cellB.vm.isStatics = false ∧ s.vm.findClass y'.1.cls = some cellB.cls := by
    rw [hc]
    exact vk_recv (i := 0) (ks_at C) (by decide) hS
  have hp := wp_preS (As := .ref (ksK κ) :: As) C hH
  exact wp_back C hl hS (va_runV (C := y'.1.cls) ⟨C.1, C.2.1, C.2.2.1, C.2.2.2.1, C.2.2.2.2.1⟩ h ⟨wp_callB C f.1 f.2.2.2 lv, C.2.2.2.2.1 _ f.2.1, C.2.2.2.2.1 _ f.2.2.1⟩ ⟨hp.1, hrc, hp.2⟩ rfl hn hl.1 hst (lv_room hcat) hd ⟨by rw [hR.2.2.1]; exact lv.2.1, by rw [hR.2.2.2]; exact lv.2.2⟩)
theorem wp_callVS_0 {i : Nat} (f : CV y.1.cls i y' 0) (d : St y pc (.invokevirtual i) 3 n) (hc : y'.1.cls = "java/lang/String") (h : CT κ r' y' (.ref (ksK κ) :: []) w (fun v w' => WP κ r y n L (psh v st) w' (ct.1 + r'.2.1, ct.2 + r'.2.2) Q)) (lv : Lev r r' ct) (hcat : (st.map fun v => v.category).sum ≤ 8) : WP κ r y pc L (.ref (ksK κ) :: st) w ct Q := wp_callVS (As := []) f d hc lv rfl rfl hcat h
theorem wp_callVS_1 {i : Nat} {a0 : Value} (f : CV y.1.cls i y' 1) (d : St y pc (.invokevirtual i) 3 n) (hc : y'.1.cls = "java/lang/String") (h : CT κ r' y' (.ref (ksK κ) :: [a0]) w (fun v w' => WP κ r y n L (psh v st) w' (ct.1 + r'.2.1, ct.2 + r'.2.2) Q)) (lv : Lev r r' ct) (hcat : (st.map fun v => v.category).sum ≤ 8) : WP κ r y pc L (a0 :: .ref (ksK κ) :: st) w ct Q := wp_callVS (As := [a0]) f d hc lv rfl rfl hcat h
theorem wp_callVS_2 {i : Nat} {a0 a1 : Value} (f : CV y.1.cls i y' 2) (d : St y pc (.invokevirtual i) 3 n) (hc : y'.1.cls = "java/lang/String") (h : CT κ r' y' (.ref (ksK κ) :: [a0, a1]) w (fun v w' => WP κ r y n L (psh v st) w' (ct.1 + r'.2.1, ct.2 + r'.2.2) Q)) (lv : Lev r r' ct) (hcat : (st.map fun v => v.category).sum ≤ 8) : WP κ r y pc L (a1 :: a0 :: .ref (ksK κ) :: st) w ct Q := wp_callVS (As := [a0, a1]) f d hc lv rfl rfl hcat h
theorem wp_callVS_3 {i : Nat} {a0 a1 a2 : Value} (f : CV y.1.cls i y' 3) (d : St y pc (.invokevirtual i) 3 n) (hc : y'.1.cls = "java/lang/String") (h : CT κ r' y' (.ref (ksK κ) :: [a0, a1, a2]) w (fun v w' => WP κ r y n L (psh v st) w' (ct.1 + r'.2.1, ct.2 + r'.2.2) Q)) (lv : Lev r r' ct) (hcat : (st.map fun v => v.category).sum ≤ 8) : WP κ r y pc L (a2 :: a1 :: a0 :: .ref (ksK κ) :: st) w ct Q := wp_callVS (As := [a0, a1, a2]) f d hc lv rfl rfl hcat h
end WPS
set_option maxRecDepth 100000 in
set_option maxHeartbeats 4000000 in
theorem c_J0_coder_7d493 {κ : KX} {M : MM} {Q : Option Value → va_W → Prop}   (hQ : Q (some (.int 0)) (wM κ (M))) : CT κ (0, 0, 0) mJ0_coder_7d493 [.ref (ksK κ)] (wM κ M) Q := by
  refine CT.of okJ0_coder_7d493 [some (.ref (ksK κ))] (Nat.le_of_ble_eq_true rfl) rfl ?_
  refine wp_cmp fJ0_38 dJ0_coder_7d493_0 ?_
  refine wp_if_eq (tgt := 13) dJ0_coder_7d493_3 rfl (fun c3 => absurd c3 (by decide)) (fun c3 => ?_)
  refine wp_aload_0 dJ0_coder_7d493_6 ?_
  refine wp_scod fJ0_15 dJ0_coder_7d493_7 ?_
  refine wp_goto (tgt := 14) dJ0_coder_7d493_10 rfl ?_
  refine wp_zret dJ0_coder_7d493_14 rfl rfl rfl ?_
  exact hQ
set_option maxRecDepth 100000 in
set_option maxHeartbeats 4000000 in
theorem c_J0_isLatin1_aae02 {κ : KX} {M : MM} {Q : Option Value → va_W → Prop}   (hQ : Q (some (.int 1)) (wM κ (M))) : CT κ (0, 0, 0) mJ0_isLatin1_aae02 [.ref (ksK κ)] (wM κ M) Q := by
  refine CT.of okJ0_isLatin1_aae02 [some (.ref (ksK κ))] (Nat.le_of_ble_eq_true rfl) rfl ?_
  refine wp_cmp fJ0_38 dJ0_isLatin1_aae02_0 ?_
  refine wp_if_eq (tgt := 17) dJ0_isLatin1_aae02_3 rfl (fun c3 => absurd c3 (by decide)) (fun c3 => ?_)
  refine wp_aload_0 dJ0_isLatin1_aae02_6 ?_
  refine wp_scod fJ0_15 dJ0_isLatin1_aae02_7 ?_
  refine wp_if_ne (tgt := 17) dJ0_isLatin1_aae02_10 rfl (fun c10 => absurd (rfl) c10) (fun c10 => ?_)
  refine wp_iconst (v := 1) dJ0_isLatin1_aae02_13 rfl ?_
  refine wp_goto (tgt := 18) dJ0_isLatin1_aae02_14 rfl ?_
  refine wp_zret dJ0_isLatin1_aae02_18 rfl rfl rfl ?_
  exact hQ
set_option maxRecDepth 100000 in
set_option maxHeartbeats 4000000 in
theorem c_J0_length_8abf5 {κ : KX} {M : MM} {Q : Option Value → va_W → Prop}   (hQ : Q (some (.int 5)) (wM κ (M))) : CT κ (1, 0, 0) mJ0_length_8abf5 [.ref (ksK κ)] (wM κ M) Q := by
  refine CT.of okJ0_length_8abf5 [some (.ref (ksK κ))] (Nat.le_of_ble_eq_true rfl) rfl ?_
  refine wp_aload_0 dJ0_length_8abf5_0 ?_
  refine wp_sval fJ0_9 dJ0_length_8abf5_1 ?_
  refine wp_slen dJ0_length_8abf5_4 ?_
  refine wp_aload_0 dJ0_length_8abf5_5 ?_
  refine wp_callVS_0 kJ0_335 dJ0_length_8abf5_6 rfl (c_J0_coder_7d493 ?_) ⟨Nat.le_of_ble_eq_true rfl, Nat.le_of_ble_eq_true rfl, Nat.le_of_ble_eq_true rfl⟩ (Nat.le_of_ble_eq_true rfl)
  refine wp_ishr dJ0_length_8abf5_9 ?_
  rw [show (5 : Int32) >>> ((0 : Int32) &&& 31) = 5 by decide]
  refine wp_iret dJ0_length_8abf5_10 rfl rfl ?_
  exact hQ
def enc (x : Int32) : Int32 := if x < 0 then 0 else if 255 < x then 0 else 1
set_option maxRecDepth 100000 in
set_option maxHeartbeats 4000000 in
theorem c_J1_canEncode_9a6ad {κ : KX} {M : MM} {Q : Option Value → va_W → Prop} {x : Int32}  (hQ : Q (some (.int (enc x))) (wM κ (M))) : CT κ (0, 0, 0) mJ1_canEncode_9a6ad [.int x] (wM κ M) Q := by
  refine CT.of okJ1_canEncode_9a6ad [some (.int x)] (Nat.le_of_ble_eq_true rfl) rfl ?_
  refine wp_iload_0 dJ1_canEncode_9a6ad_0 ?_
  refine wp_if_lt (tgt := 15) dJ1_canEncode_9a6ad_1 rfl (fun c1 => ?_) (fun c1 => ?_)
  · refine wp_iconst (v := 0) dJ1_canEncode_9a6ad_15 rfl ?_
    refine wp_zret dJ1_canEncode_9a6ad_16 rfl rfl rfl ?_
    exact Qe hQ (by simp [enc, *]) rfl
  · refine wp_iload_0 dJ1_canEncode_9a6ad_4 ?_
    refine wp_sipush (v := 255) dJ1_canEncode_9a6ad_5 rfl ?_
    refine wp_icmp_gt (tgt := 15) dJ1_canEncode_9a6ad_8 rfl (fun c8 => ?_) (fun c8 => ?_)
    · refine wp_iconst (v := 0) dJ1_canEncode_9a6ad_15 rfl ?_
      refine wp_zret dJ1_canEncode_9a6ad_16 rfl rfl rfl ?_
      exact Qe hQ (by simp [enc, *]) rfl
    · refine wp_iconst (v := 1) dJ1_canEncode_9a6ad_11 rfl ?_
      refine wp_goto (tgt := 16) dJ1_canEncode_9a6ad_12 rfl ?_
      refine wp_zret dJ1_canEncode_9a6ad_16 rfl rfl rfl ?_
      exact Qe hQ (by simp [enc, *]) rfl
def scn (b : Int32) : Nat → Nat → Int32
  | 0, _ => -1
  | n + 1, j => if ¬ sby j = b then scn b n (j + 1) else nI j
set_option maxRecDepth 100000 in
set_option maxHeartbeats 4000000 in
theorem l_J1_indexOfChar {κ : KX} {M : MM} {Q : Option Value → va_W → Prop} {x b : Int32} : ∀ n j, j + n = 5 → Q (some (.int (scn b n j))) (wM κ M) → WP κ (0, 0, 0) mJ1_indexOfChar_4cfef 7 [some (.ref (ksV κ)), some (.int x), some (.int 0), some (.int 5), some (.int b), some (.int (nI j))] [] (wM κ M) (0, 0) Q := by
  intro n
  induction n with
  | zero =>
    intro j hn hQ
    refine wp_iload_5 dJ1_indexOfChar_4cfef_7 ?_
    refine wp_iload_3 dJ1_indexOfChar_4cfef_9 ?_
    refine wp_icmp_ge (tgt := 31) dJ1_indexOfChar_4cfef_10 rfl (fun c10 => ?_) (fun c10 => absurd (nI_le (a := 5) (by omega) (by omega)) c10)
    refine wp_iconst (v := (-1)) dJ1_indexOfChar_4cfef_31 rfl ?_
    refine wp_iret dJ1_indexOfChar_4cfef_32 rfl rfl ?_
    exact hQ
  | succ n ih =>
    intro j hn hQ
    refine wp_iload_5 dJ1_indexOfChar_4cfef_7 ?_
    refine wp_iload_3 dJ1_indexOfChar_4cfef_9 ?_
    refine wp_icmp_ge (tgt := 31) dJ1_indexOfChar_4cfef_10 rfl (fun c10 => absurd c10 (nI_ge (b := 5) (by omega) (by omega))) (fun c10 => ?_)
    refine wp_aload_0 dJ1_indexOfChar_4cfef_13 ?_
    refine wp_iload_5 dJ1_indexOfChar_4cfef_14 ?_
    refine wp_sbald (j := j) dJ1_indexOfChar_4cfef_16 (rfl) (by omega) ?_
    refine wp_iload_4 dJ1_indexOfChar_4cfef_17 ?_
    refine wp_icmp_ne (tgt := 25) dJ1_indexOfChar_4cfef_19 rfl (fun c19 => ?_) (fun c19 => ?_)
    · refine wp_iinc_5 (v := nI (j + 1)) dJ1_indexOfChar_4cfef_25 (nI_inc _) (Nat.le_of_ble_eq_true rfl) rfl ?_
      refine wp_goto (tgt := 7) dJ1_indexOfChar_4cfef_28 rfl ?_
      exact ih (j + 1) (by omega) (Qe hQ (by rw [scn, if_pos c19]) rfl)
    · refine wp_iload_5 dJ1_indexOfChar_4cfef_22 ?_
      refine wp_iret dJ1_indexOfChar_4cfef_24 rfl rfl ?_
      exact Qe hQ (by rw [scn, if_neg (fun z => z c19)]) rfl
set_option maxRecDepth 100000 in
set_option maxHeartbeats 4000000 in
theorem c_J1_indexOfChar_4cfef {κ : KX} {M : MM} {Q : Option Value → va_W → Prop} {x : Int32}  (hQ : Q (some (.int (scn x.toInt8.toInt32 5 0))) (wM κ (M))) : CT κ (0, 0, 0) mJ1_indexOfChar_4cfef [.ref (ksV κ), .int x, .int 0, .int 5] (wM κ M) Q := by
  refine CT.of okJ1_indexOfChar_4cfef [some (.ref (ksV κ)), some (.int x), some (.int 0), some (.int 5), none, none] (Nat.le_of_ble_eq_true rfl) rfl ?_
  refine wp_iload_1 dJ1_indexOfChar_4cfef_0 ?_
  refine wp_i2b dJ1_indexOfChar_4cfef_1 ?_
  refine wp_istore_4 dJ1_indexOfChar_4cfef_2 (Nat.le_of_ble_eq_true rfl) rfl ?_
  refine wp_iload_2 dJ1_indexOfChar_4cfef_4 ?_
  refine wp_istore_5 dJ1_indexOfChar_4cfef_5 (Nat.le_of_ble_eq_true rfl) rfl ?_
  exact l_J1_indexOfChar 5 0 (by omega) hQ
def sox (x : Int32) : Int32 := if enc x = 0 then -1 else scn x.toInt8.toInt32 5 0
set_option maxRecDepth 100000 in
set_option maxHeartbeats 4000000 in
theorem c_J1_indexOf_4cfef {κ : KX} {M : MM} {Q : Option Value → va_W → Prop} {x : Int32}  (hQ : Q (some (.int (sox x))) (wM κ (M))) : CT κ (1, 0, 0) mJ1_indexOf_4cfef [.ref (ksV κ), .int x, .int 0, .int 5] (wM κ M) Q := by
  refine CT.of okJ1_indexOf_4cfef [some (.ref (ksV κ)), some (.int x), some (.int 0), some (.int 5)] (Nat.le_of_ble_eq_true rfl) rfl ?_
  refine wp_iload_1 dJ1_indexOf_4cfef_0 ?_
  refine wp_callS_1 kJ1_88 dJ1_indexOf_4cfef_1 (c_J1_canEncode_9a6ad ?_) ⟨Nat.le_of_ble_eq_true rfl, Nat.le_of_ble_eq_true rfl, Nat.le_of_ble_eq_true rfl⟩ (Nat.le_of_ble_eq_true rfl)
  refine wp_if_ne (tgt := 9) dJ1_indexOf_4cfef_4 rfl (fun c4 => ?_) (fun c4 => ?_)
  · refine wp_iload_2 dJ1_indexOf_4cfef_9 ?_
    refine wp_iconst (v := 0) dJ1_indexOf_4cfef_10 rfl ?_
    refine wp_max kJ1_92 dJ1_indexOf_4cfef_11 ⟨Nat.le_of_ble_eq_true rfl, Nat.le_of_ble_eq_true rfl, Nat.le_of_ble_eq_true rfl⟩ (Nat.le_of_ble_eq_true rfl) ?_
    rw [show (if (0 : Int32) < 0 then (0 : Int32) else 0) = 0 by decide]
    refine wp_istore_2 dJ1_indexOf_4cfef_14 (Nat.le_of_ble_eq_true rfl) rfl ?_
    refine wp_iload_3 dJ1_indexOf_4cfef_15 ?_
    refine wp_aload_0 dJ1_indexOf_4cfef_16 ?_
    refine wp_slen dJ1_indexOf_4cfef_17 ?_
    refine wp_min kJ1_38 dJ1_indexOf_4cfef_18 ⟨Nat.le_of_ble_eq_true rfl, Nat.le_of_ble_eq_true rfl, Nat.le_of_ble_eq_true rfl⟩ (Nat.le_of_ble_eq_true rfl) ?_
    rw [show (if (5 : Int32) < 5 then (5 : Int32) else 5) = 5 by decide]
    refine wp_istore_3 dJ1_indexOf_4cfef_21 (Nat.le_of_ble_eq_true rfl) rfl ?_
    refine wp_iload_2 dJ1_indexOf_4cfef_22 ?_
    refine wp_iload_3 dJ1_indexOf_4cfef_23 ?_
    refine wp_icmp_lt (tgt := 29) dJ1_indexOf_4cfef_24 rfl (fun c24 => ?_) (fun c24 => absurd (by decide) c24)
    refine wp_aload_0 dJ1_indexOf_4cfef_29 ?_
    refine wp_iload_1 dJ1_indexOf_4cfef_30 ?_
    refine wp_iload_2 dJ1_indexOf_4cfef_31 ?_
    refine wp_iload_3 dJ1_indexOf_4cfef_32 ?_
    refine wp_callS_4 kJ1_95 dJ1_indexOf_4cfef_33 (c_J1_indexOfChar_4cfef ?_) ⟨Nat.le_of_ble_eq_true rfl, Nat.le_of_ble_eq_true rfl, Nat.le_of_ble_eq_true rfl⟩ (Nat.le_of_ble_eq_true rfl)
    refine wp_iret dJ1_indexOf_4cfef_36 rfl rfl ?_
    first
      | exact Qe hQ (by rw [sox, if_pos c4]) rfl
      | exact Qe hQ (by rw [sox, if_neg c4]) rfl
  · refine wp_iconst (v := (-1)) dJ1_indexOf_4cfef_7 rfl ?_
    refine wp_iret dJ1_indexOf_4cfef_8 rfl rfl ?_
    first
      | exact Qe hQ (by rw [sox, if_pos c4]) rfl
      | exact Qe hQ (by rw [sox, if_neg c4]) rfl
set_option maxRecDepth 100000 in
set_option maxHeartbeats 4000000 in
theorem c_J0_indexOf_7cf53 {κ : KX} {M : MM} {Q : Option Value → va_W → Prop} {x : Int32}  (hQ : Q (some (.int (sox x))) (wM κ (M))) : CT κ (2, 0, 0) mJ0_indexOf_7cf53 [.ref (ksK κ), .int x, .int 0] (wM κ M) Q := by
  refine CT.of okJ0_indexOf_7cf53 [some (.ref (ksK κ)), some (.int x), some (.int 0)] (Nat.le_of_ble_eq_true rfl) rfl ?_
  refine wp_aload_0 dJ0_indexOf_7cf53_0 ?_
  refine wp_callVS_0 kJ0_492 dJ0_indexOf_7cf53_1 rfl (c_J0_isLatin1_aae02 ?_) ⟨Nat.le_of_ble_eq_true rfl, Nat.le_of_ble_eq_true rfl, Nat.le_of_ble_eq_true rfl⟩ (Nat.le_of_ble_eq_true rfl)
  refine wp_if_eq (tgt := 23) dJ0_indexOf_7cf53_4 rfl (fun c4 => absurd c4 (by decide)) (fun c4 => ?_)
  refine wp_aload_0 dJ0_indexOf_7cf53_7 ?_
  refine wp_sval fJ0_9 dJ0_indexOf_7cf53_8 ?_
  refine wp_iload_1 dJ0_indexOf_7cf53_11 ?_
  refine wp_iload_2 dJ0_indexOf_7cf53_12 ?_
  refine wp_aload_0 dJ0_indexOf_7cf53_13 ?_
  refine wp_callVS_0 kJ0_505 dJ0_indexOf_7cf53_14 rfl (c_J0_length_8abf5 ?_) ⟨Nat.le_of_ble_eq_true rfl, Nat.le_of_ble_eq_true rfl, Nat.le_of_ble_eq_true rfl⟩ (Nat.le_of_ble_eq_true rfl)
  refine wp_callS_4 kJ0_637 dJ0_indexOf_7cf53_17 (c_J1_indexOf_4cfef ?_) ⟨Nat.le_of_ble_eq_true rfl, Nat.le_of_ble_eq_true rfl, Nat.le_of_ble_eq_true rfl⟩ (Nat.le_of_ble_eq_true rfl)
  refine wp_goto (tgt := 36) dJ0_indexOf_7cf53_20 rfl ?_
  refine wp_iret dJ0_indexOf_7cf53_36 rfl rfl ?_
  exact hQ
set_option maxRecDepth 100000 in
set_option maxHeartbeats 4000000 in
theorem c_J0_indexOf_0f7a4 {κ : KX} {M : MM} {Q : Option Value → va_W → Prop} {x : Int32}  (hQ : Q (some (.int (sox x))) (wM κ (M))) : CT κ (3, 0, 0) mJ0_indexOf_0f7a4 [.ref (ksK κ), .int x] (wM κ M) Q := by
  refine CT.of okJ0_indexOf_0f7a4 [some (.ref (ksK κ)), some (.int x)] (Nat.le_of_ble_eq_true rfl) rfl ?_
  refine wp_aload_0 dJ0_indexOf_0f7a4_0 ?_
  refine wp_iload_1 dJ0_indexOf_0f7a4_1 ?_
  refine wp_iconst (v := 0) dJ0_indexOf_0f7a4_2 rfl ?_
  refine wp_callVS_2 kJ0_633 dJ0_indexOf_0f7a4_3 rfl (c_J0_indexOf_7cf53 ?_) ⟨Nat.le_of_ble_eq_true rfl, Nat.le_of_ble_eq_true rfl, Nat.le_of_ble_eq_true rfl⟩ (Nat.le_of_ble_eq_true rfl)
  refine wp_iret dJ0_indexOf_0f7a4_6 rfl rfl ?_
  exact hQ
