/-! THE REFERENCE: rows as functions -/
theorem rI_id (M : MM) (k : Nat) : rI M k (M.1 k) = M := by
  refine Prod.ext ?_ rfl
  funext a
  by_cases ha : a = k
  · subst ha; simp [rI]
  · simp [rI, ha]
theorem rI_at (M : MM) (k : Nat) (f : Nat → Int32) : (rI M k f).1 k = f := by simp [rI]
theorem rI_ne (M : MM) {k a : Nat} (f : Nat → Int32) (h : a ≠ k) : (rI M k f).1 a = M.1 a := by simp [rI, h]
theorem rI_rI (M : MM) (k : Nat) (f g : Nat → Int32) : rI (rI M k f) k g = rI M k g := by
  refine Prod.ext ?_ rfl
  funext a
  by_cases ha : a = k
  · subst ha; simp [rI]
  · simp [rI, ha]
theorem sI_rI (M : MM) (k j : Nat) (f : Nat → Int32) (v : Int32) : sI (rI M k f) k j v = rI M k (upd f j v) := by
  refine Prod.ext ?_ rfl
  funext a
  by_cases ha : a = k
  · subst ha; simp [rI, sI]
  · simp [rI, sI, ha]
section WPF
variable {κ : KX} {r : RM} {y : MD} {pc n : Nat} {L : List (Option Value)} {st : List Value} {M : MM} {ct : Nat × Nat} {Q : Option Value → va_W → Prop}
theorem wp_aldF {k N j : Nat} {x : Int32} {h : Nat → Int32} (d : St y pc (.iaload) 1 n) (a : AR k N) (hx : x = nI j) (hj : j < N) (kk : WP κ r y n L (.int (h j) :: st) (wM κ (rI M k h)) ct Q) : WP κ r y pc L (.int x :: rv κ k :: st) (wM κ (rI M k h)) ct Q :=
  wp_ald d a hx hj (by rw [rI_at]; exact kk)
theorem wp_astF {k N j : Nat} {x v : Int32} {h : Nat → Int32} (d : St y pc (.iastore) 1 n) (a : AR k N) (hx : x = nI j) (hj : j < N) (kk : WP κ r y n L st (wM κ (rI M k (upd h j v))) ct Q) : WP κ r y pc L (.int v :: .int x :: rv κ k :: st) (wM κ (rI M k h)) ct Q :=
  wp_ast d a hx hj (by rw [sI_rI]; exact kk)
theorem wp_iload_10 {w : va_W} {x : Int32} {o0 : Option Value} {o1 : Option Value} {o2 : Option Value} {o3 : Option Value} {o4 : Option Value} {o5 : Option Value} {o6 : Option Value} {o7 : Option Value} {o8 : Option Value} {o9 : Option Value} (d : St y pc (.iload 10) 2 n) (k : WP κ r y n (o0 :: o1 :: o2 :: o3 :: o4 :: o5 :: o6 :: o7 :: o8 :: o9 :: some (.int x) :: L) (.int x :: st) w ct Q) : WP κ r y pc (o0 :: o1 :: o2 :: o3 :: o4 :: o5 :: o6 :: o7 :: o8 :: o9 :: some (.int x) :: L) st w ct Q := by
  obtain ⟨hd, rfl⟩ := d
  intro p e R s m args below meth c H locs ls C hl hH hS
  exact lv_iload C.1 C.2.1 hd (lvL_at hl (i := 10) rfl) (k p e R s m args below meth c H locs ls C hl hH hS)
theorem wp_istore_10 {w : va_W} {x : Int32} {oo : Option Value} {o0 : Option Value} {o1 : Option Value} {o2 : Option Value} {o3 : Option Value} {o4 : Option Value} {o5 : Option Value} {o6 : Option Value} {o7 : Option Value} {o8 : Option Value} {o9 : Option Value} (d : St y pc (.istore 10) 2 n) (hi : 10 < y.2.2.1) (hc : lcat o9 = true) (k : WP κ r y n (o0 :: o1 :: o2 :: o3 :: o4 :: o5 :: o6 :: o7 :: o8 :: o9 :: some (.int x) :: L) st w ct Q) : WP κ r y pc (o0 :: o1 :: o2 :: o3 :: o4 :: o5 :: o6 :: o7 :: o8 :: o9 :: oo :: L) (.int x :: st) w ct Q := by
  obtain ⟨hd, rfl⟩ := d
  intro p e R s m args below meth c H locs ls C hl hH hS
  exact lv_istore (i := 10) C.1 C.2.1 hd hl hi rfl (fun ls' hl' => k p e R s m args below meth c H locs ls' C (lvL_set (L := o0 :: o1 :: o2 :: o3 :: o4 :: o5 :: o6 :: o7 :: o8 :: o9 :: oo :: L) (i := 10) hl' (fun u h1 h2 => lcat_of hc (by simpa using h2)) (by simp)) hH hS)
theorem wp_iinc_10 {w : va_W} {x v : Int32} {j : Int} {o0 : Option Value} {o1 : Option Value} {o2 : Option Value} {o3 : Option Value} {o4 : Option Value} {o5 : Option Value} {o6 : Option Value} {o7 : Option Value} {o8 : Option Value} {o9 : Option Value} (d : St y pc (.iinc 10 j) 3 n) (hv : x + Int32.ofInt j = v) (hi : 10 < y.2.2.1) (hc : lcat o9 = true) (k : WP κ r y n (o0 :: o1 :: o2 :: o3 :: o4 :: o5 :: o6 :: o7 :: o8 :: o9 :: some (.int v) :: L) st w ct Q) : WP κ r y pc (o0 :: o1 :: o2 :: o3 :: o4 :: o5 :: o6 :: o7 :: o8 :: o9 :: some (.int x) :: L) st w ct Q := by
  obtain ⟨hd, rfl⟩ := d
  intro p e R s m args below meth c H locs ls C hl hH hS
  obtain ⟨q, hq⟩ := List.getElem?_of_mem (lvA_mem (L := o0 :: o1 :: o2 :: o3 :: o4 :: o5 :: o6 :: o7 :: o8 :: o9 :: some (.int x) :: L) (i := 10) (v := .int x) rfl)
  exact lv_iinc (i := 10) (k := q) C.1 C.2.1 hd hl hq hv hi rfl (fun ls' hl' => k p e R s m args below meth c H locs ls' C (lvL_set (L := o0 :: o1 :: o2 :: o3 :: o4 :: o5 :: o6 :: o7 :: o8 :: o9 :: some (.int x) :: L) (i := 10) hl' (fun u h1 h2 => lcat_of hc (by simpa using h2)) (by simp)) hH hS)
theorem wp_drop_10 {w : va_W} {oo : Option Value} {o0 : Option Value} {o1 : Option Value} {o2 : Option Value} {o3 : Option Value} {o4 : Option Value} {o5 : Option Value} {o6 : Option Value} {o7 : Option Value} {o8 : Option Value} {o9 : Option Value} (k : WP κ r y pc (o0 :: o1 :: o2 :: o3 :: o4 :: o5 :: o6 :: o7 :: o8 :: o9 :: none :: L) st w ct Q) : WP κ r y pc (o0 :: o1 :: o2 :: o3 :: o4 :: o5 :: o6 :: o7 :: o8 :: o9 :: oo :: L) st w ct Q := by
  intro p e R s m args below meth c H locs ls C hl hH hS
  exact k p e R s m args below meth c H locs ls C (lvL_none (L := o0 :: o1 :: o2 :: o3 :: o4 :: o5 :: o6 :: o7 :: o8 :: o9 :: oo :: L) (i := 10) hl) hH hS
theorem wp_iload_11 {w : va_W} {x : Int32} {o0 : Option Value} {o1 : Option Value} {o2 : Option Value} {o3 : Option Value} {o4 : Option Value} {o5 : Option Value} {o6 : Option Value} {o7 : Option Value} {o8 : Option Value} {o9 : Option Value} {o10 : Option Value} (d : St y pc (.iload 11) 2 n) (k : WP κ r y n (o0 :: o1 :: o2 :: o3 :: o4 :: o5 :: o6 :: o7 :: o8 :: o9 :: o10 :: some (.int x) :: L) (.int x :: st) w ct Q) : WP κ r y pc (o0 :: o1 :: o2 :: o3 :: o4 :: o5 :: o6 :: o7 :: o8 :: o9 :: o10 :: some (.int x) :: L) st w ct Q := by
  obtain ⟨hd, rfl⟩ := d
  intro p e R s m args below meth c H locs ls C hl hH hS
  exact lv_iload C.1 C.2.1 hd (lvL_at hl (i := 11) rfl) (k p e R s m args below meth c H locs ls C hl hH hS)
theorem wp_istore_11 {w : va_W} {x : Int32} {oo : Option Value} {o0 : Option Value} {o1 : Option Value} {o2 : Option Value} {o3 : Option Value} {o4 : Option Value} {o5 : Option Value} {o6 : Option Value} {o7 : Option Value} {o8 : Option Value} {o9 : Option Value} {o10 : Option Value} (d : St y pc (.istore 11) 2 n) (hi : 11 < y.2.2.1) (hc : lcat o10 = true) (k : WP κ r y n (o0 :: o1 :: o2 :: o3 :: o4 :: o5 :: o6 :: o7 :: o8 :: o9 :: o10 :: some (.int x) :: L) st w ct Q) : WP κ r y pc (o0 :: o1 :: o2 :: o3 :: o4 :: o5 :: o6 :: o7 :: o8 :: o9 :: o10 :: oo :: L) (.int x :: st) w ct Q := by
  obtain ⟨hd, rfl⟩ := d
  intro p e R s m args below meth c H locs ls C hl hH hS
  exact lv_istore (i := 11) C.1 C.2.1 hd hl hi rfl (fun ls' hl' => k p e R s m args below meth c H locs ls' C (lvL_set (L := o0 :: o1 :: o2 :: o3 :: o4 :: o5 :: o6 :: o7 :: o8 :: o9 :: o10 :: oo :: L) (i := 11) hl' (fun u h1 h2 => lcat_of hc (by simpa using h2)) (by simp)) hH hS)
theorem wp_iinc_11 {w : va_W} {x v : Int32} {j : Int} {o0 : Option Value} {o1 : Option Value} {o2 : Option Value} {o3 : Option Value} {o4 : Option Value} {o5 : Option Value} {o6 : Option Value} {o7 : Option Value} {o8 : Option Value} {o9 : Option Value} {o10 : Option Value} (d : St y pc (.iinc 11 j) 3 n) (hv : x + Int32.ofInt j = v) (hi : 11 < y.2.2.1) (hc : lcat o10 = true) (k : WP κ r y n (o0 :: o1 :: o2 :: o3 :: o4 :: o5 :: o6 :: o7 :: o8 :: o9 :: o10 :: some (.int v) :: L) st w ct Q) : WP κ r y pc (o0 :: o1 :: o2 :: o3 :: o4 :: o5 :: o6 :: o7 :: o8 :: o9 :: o10 :: some (.int x) :: L) st w ct Q := by
  obtain ⟨hd, rfl⟩ := d
  intro p e R s m args below meth c H locs ls C hl hH hS
  obtain ⟨q, hq⟩ := List.getElem?_of_mem (lvA_mem (L := o0 :: o1 :: o2 :: o3 :: o4 :: o5 :: o6 :: o7 :: o8 :: o9 :: o10 :: some (.int x) :: L) (i := 11) (v := .int x) rfl)
  exact lv_iinc (i := 11) (k := q) C.1 C.2.1 hd hl hq hv hi rfl (fun ls' hl' => k p e R s m args below meth c H locs ls' C (lvL_set (L := o0 :: o1 :: o2 :: o3 :: o4 :: o5 :: o6 :: o7 :: o8 :: o9 :: o10 :: some (.int x) :: L) (i := 11) hl' (fun u h1 h2 => lcat_of hc (by simpa using h2)) (by simp)) hH hS)
theorem wp_drop_11 {w : va_W} {oo : Option Value} {o0 : Option Value} {o1 : Option Value} {o2 : Option Value} {o3 : Option Value} {o4 : Option Value} {o5 : Option Value} {o6 : Option Value} {o7 : Option Value} {o8 : Option Value} {o9 : Option Value} {o10 : Option Value} (k : WP κ r y pc (o0 :: o1 :: o2 :: o3 :: o4 :: o5 :: o6 :: o7 :: o8 :: o9 :: o10 :: none :: L) st w ct Q) : WP κ r y pc (o0 :: o1 :: o2 :: o3 :: o4 :: o5 :: o6 :: o7 :: o8 :: o9 :: o10 :: oo :: L) st w ct Q := by
  intro p e R s m args below meth c H locs ls C hl hH hS
  exact k p e R s m args below meth c H locs ls C (lvL_none (L := o0 :: o1 :: o2 :: o3 :: o4 :: o5 :: o6 :: o7 :: o8 :: o9 :: o10 :: oo :: L) (i := 11) hl) hH hS
theorem wp_iload_12 {w : va_W} {x : Int32} {o0 : Option Value} {o1 : Option Value} {o2 : Option Value} {o3 : Option Value} {o4 : Option Value} {o5 : Option Value} {o6 : Option Value} {o7 : Option Value} {o8 : Option Value} {o9 : Option Value} {o10 : Option Value} {o11 : Option Value} (d : St y pc (.iload 12) 2 n) (k : WP κ r y n (o0 :: o1 :: o2 :: o3 :: o4 :: o5 :: o6 :: o7 :: o8 :: o9 :: o10 :: o11 :: some (.int x) :: L) (.int x :: st) w ct Q) : WP κ r y pc (o0 :: o1 :: o2 :: o3 :: o4 :: o5 :: o6 :: o7 :: o8 :: o9 :: o10 :: o11 :: some (.int x) :: L) st w ct Q := by
  obtain ⟨hd, rfl⟩ := d
  intro p e R s m args below meth c H locs ls C hl hH hS
  exact lv_iload C.1 C.2.1 hd (lvL_at hl (i := 12) rfl) (k p e R s m args below meth c H locs ls C hl hH hS)
theorem wp_istore_12 {w : va_W} {x : Int32} {oo : Option Value} {o0 : Option Value} {o1 : Option Value} {o2 : Option Value} {o3 : Option Value} {o4 : Option Value} {o5 : Option Value} {o6 : Option Value} {o7 : Option Value} {o8 : Option Value} {o9 : Option Value} {o10 : Option Value} {o11 : Option Value} (d : St y pc (.istore 12) 2 n) (hi : 12 < y.2.2.1) (hc : lcat o11 = true) (k : WP κ r y n (o0 :: o1 :: o2 :: o3 :: o4 :: o5 :: o6 :: o7 :: o8 :: o9 :: o10 :: o11 :: some (.int x) :: L) st w ct Q) : WP κ r y pc (o0 :: o1 :: o2 :: o3 :: o4 :: o5 :: o6 :: o7 :: o8 :: o9 :: o10 :: o11 :: oo :: L) (.int x :: st) w ct Q := by
  obtain ⟨hd, rfl⟩ := d
  intro p e R s m args below meth c H locs ls C hl hH hS
  exact lv_istore (i := 12) C.1 C.2.1 hd hl hi rfl (fun ls' hl' => k p e R s m args below meth c H locs ls' C (lvL_set (L := o0 :: o1 :: o2 :: o3 :: o4 :: o5 :: o6 :: o7 :: o8 :: o9 :: o10 :: o11 :: oo :: L) (i := 12) hl' (fun u h1 h2 => lcat_of hc (by simpa using h2)) (by simp)) hH hS)
theorem wp_iinc_12 {w : va_W} {x v : Int32} {j : Int} {o0 : Option Value} {o1 : Option Value} {o2 : Option Value} {o3 : Option Value} {o4 : Option Value} {o5 : Option Value} {o6 : Option Value} {o7 : Option Value} {o8 : Option Value} {o9 : Option Value} {o10 : Option Value} {o11 : Option Value} (d : St y pc (.iinc 12 j) 3 n) (hv : x + Int32.ofInt j = v) (hi : 12 < y.2.2.1) (hc : lcat o11 = true) (k : WP κ r y n (o0 :: o1 :: o2 :: o3 :: o4 :: o5 :: o6 :: o7 :: o8 :: o9 :: o10 :: o11 :: some (.int v) :: L) st w ct Q) : WP κ r y pc (o0 :: o1 :: o2 :: o3 :: o4 :: o5 :: o6 :: o7 :: o8 :: o9 :: o10 :: o11 :: some (.int x) :: L) st w ct Q := by
  obtain ⟨hd, rfl⟩ := d
  intro p e R s m args below meth c H locs ls C hl hH hS
  obtain ⟨q, hq⟩ := List.getElem?_of_mem (lvA_mem (L := o0 :: o1 :: o2 :: o3 :: o4 :: o5 :: o6 :: o7 :: o8 :: o9 :: o10 :: o11 :: some (.int x) :: L) (i := 12) (v := .int x) rfl)
  exact lv_iinc (i := 12) (k := q) C.1 C.2.1 hd hl hq hv hi rfl (fun ls' hl' => k p e R s m args below meth c H locs ls' C (lvL_set (L := o0 :: o1 :: o2 :: o3 :: o4 :: o5 :: o6 :: o7 :: o8 :: o9 :: o10 :: o11 :: some (.int x) :: L) (i := 12) hl' (fun u h1 h2 => lcat_of hc (by simpa using h2)) (by simp)) hH hS)
theorem wp_drop_12 {w : va_W} {oo : Option Value} {o0 : Option Value} {o1 : Option Value} {o2 : Option Value} {o3 : Option Value} {o4 : Option Value} {o5 : Option Value} {o6 : Option Value} {o7 : Option Value} {o8 : Option Value} {o9 : Option Value} {o10 : Option Value} {o11 : Option Value} (k : WP κ r y pc (o0 :: o1 :: o2 :: o3 :: o4 :: o5 :: o6 :: o7 :: o8 :: o9 :: o10 :: o11 :: none :: L) st w ct Q) : WP κ r y pc (o0 :: o1 :: o2 :: o3 :: o4 :: o5 :: o6 :: o7 :: o8 :: o9 :: o10 :: o11 :: oo :: L) st w ct Q := by
  intro p e R s m args below meth c H locs ls C hl hH hS
  exact k p e R s m args below meth c H locs ls C (lvL_none (L := o0 :: o1 :: o2 :: o3 :: o4 :: o5 :: o6 :: o7 :: o8 :: o9 :: o10 :: o11 :: oo :: L) (i := 12) hl) hH hS
end WPF
theorem wide_lt (a b : Int32) : a.toInt64 < b.toInt64 ↔ a < b := by
  rw [Int64.lt_iff_toInt_lt, Int32.lt_iff_toInt_lt, Int32.toInt_toInt64, Int32.toInt_toInt64]
theorem lgc_lt (x y : Int64) : lg_cmp x y < 0 ↔ x < y := by
  have h := lg_cmp_ge x y
  rw [← Int32.not_le, ← Int64.not_le]
  exact not_congr h
theorem lgc_gt (x y : Int64) : 0 < lg_cmp x y ↔ y < x := by
  unfold lg_cmp
  split
  · rename_i h
    exact ⟨fun _ => h, fun _ => by decide⟩
  · rename_i h
    refine ⟨fun q => ?_, fun q => absurd q h⟩
    split at q <;> exact absurd q (by decide)
theorem lgc_eq (x y : Int64) : lg_cmp x y = 0 ↔ x = y := by
  unfold lg_cmp
  split
  · rename_i h
    refine ⟨fun q => absurd q (by decide), fun q => ?_⟩
    subst q
    exact absurd h (Int64.lt_irrefl)
  · split
    · rename_i h
      exact ⟨fun _ => h, fun _ => rfl⟩
    · rename_i h
      exact ⟨fun q => absurd q (by decide), fun q => absurd q h⟩
set_option maxRecDepth 100000 in
set_option maxHeartbeats 4000000 in
theorem c_X7_in {κ : KX} {M : MM} {Q : Option Value → va_W → Prop} {x lo hi : Int32} {a b : Int64} (ha : a = lo.toInt64) (hb : b = hi.toInt64) (hQ : Q (some (.int (wi x lo hi))) (wM κ (M))) : CT κ (0, 0, 0) mX7_in [.long x.toInt64, .long a, .long b] (wM κ M) Q := by
  refine CT.of okX7_in [some (.long x.toInt64), none, some (.long a), none, some (.long b), none] (Nat.le_of_ble_eq_true rfl) rfl ?_
  refine wp_lload_0 dX7_in_0 ?_
  refine wp_lload_2 dX7_in_1 ?_
  refine wp_lcmp dX7_in_2 ?_
  refine wp_if_lt (tgt := 17) dX7_in_3 rfl (fun c3 => ?_) (fun c3 => ?_)
  · refine wp_iconst (v := 0) dX7_in_17 rfl ?_
    refine wp_zret dX7_in_18 rfl rfl rfl ?_
    subst ha
    subst hb
    refine Qe hQ ?_ rfl
    rw [lgc_lt, wide_lt] at c3
    first
      | (rw [wi, if_pos c3]; done)
      | (rw [lgc_gt, wide_lt] at c10
         rw [wi, if_neg c3, if_pos c10]; done)
      | (rw [lgc_gt, wide_lt] at c10
         rw [wi, if_neg c3, if_neg c10]; done)
  · refine wp_lload_0 dX7_in_6 ?_
    refine wp_lload_4 dX7_in_7 ?_
    refine wp_lcmp dX7_in_9 ?_
    refine wp_if_gt (tgt := 17) dX7_in_10 rfl (fun c10 => ?_) (fun c10 => ?_)
    · refine wp_iconst (v := 0) dX7_in_17 rfl ?_
      refine wp_zret dX7_in_18 rfl rfl rfl ?_
      subst ha
      subst hb
      refine Qe hQ ?_ rfl
      rw [lgc_lt, wide_lt] at c3
      first
        | (rw [wi, if_pos c3]; done)
        | (rw [lgc_gt, wide_lt] at c10
           rw [wi, if_neg c3, if_pos c10]; done)
        | (rw [lgc_gt, wide_lt] at c10
           rw [wi, if_neg c3, if_neg c10]; done)
    · refine wp_iconst (v := 1) dX7_in_13 rfl ?_
      refine wp_goto (tgt := 18) dX7_in_14 rfl ?_
      refine wp_zret dX7_in_18 rfl rfl rfl ?_
      subst ha
      subst hb
      refine Qe hQ ?_ rfl
      rw [lgc_lt, wide_lt] at c3
      first
        | (rw [wi, if_pos c3]; done)
        | (rw [lgc_gt, wide_lt] at c10
           rw [wi, if_neg c3, if_pos c10]; done)
        | (rw [lgc_gt, wide_lt] at c10
           rw [wi, if_neg c3, if_neg c10]; done)
def hasB (s x : Int32) : Int32 := if ¬ (s >>> (x &&& 31)) &&& 1 = 1 then 0 else 1
set_option maxRecDepth 100000 in
set_option maxHeartbeats 4000000 in
theorem c_X7_has {κ : KX} {M : MM} {Q : Option Value → va_W → Prop} {s x : Int32}  (hQ : Q (some (.int (hasB s x))) (wM κ (M))) : CT κ (0, 0, 0) mX7_has [.int s, .int x] (wM κ M) Q := by
  refine CT.of okX7_has [some (.int s), some (.int x)] (Nat.le_of_ble_eq_true rfl) rfl ?_
  refine wp_iload_0 dX7_has_0 ?_
  refine wp_iload_1 dX7_has_1 ?_
  refine wp_ishr dX7_has_2 ?_
  refine wp_iconst (v := 1) dX7_has_3 rfl ?_
  refine wp_iand dX7_has_4 ?_
  refine wp_iconst (v := 1) dX7_has_5 rfl ?_
  refine wp_icmp_ne (tgt := 13) dX7_has_6 rfl (fun c6 => ?_) (fun c6 => ?_)
  · refine wp_iconst (v := 0) dX7_has_13 rfl ?_
    refine wp_zret dX7_has_14 rfl rfl rfl ?_
    first
      | exact Qe hQ (if_pos c6).symm rfl
      | exact Qe hQ (if_neg (fun q => q c6)).symm rfl
  · refine wp_iconst (v := 1) dX7_has_9 rfl ?_
    refine wp_goto (tgt := 14) dX7_has_10 rfl ?_
    refine wp_zret dX7_has_14 rfl rfl rfl ?_
    first
      | exact Qe hQ (if_pos c6).symm rfl
      | exact Qe hQ (if_neg (fun q => q c6)).symm rfl
set_option maxRecDepth 100000 in
set_option maxHeartbeats 4000000 in
theorem c_X7_isTwo {κ : KX} {M : MM} {Q : Option Value → va_W → Prop} {x : Int32}  (hQ : Q (some (.int (wi x 0 1))) (wM κ (M))) : CT κ (1, 0, 0) mX7_isTwo [.int x] (wM κ M) Q := by
  refine CT.of okX7_isTwo [some (.int x)] (Nat.le_of_ble_eq_true rfl) rfl ?_
  refine wp_iload_0 dX7_isTwo_0 ?_
  refine wp_i2l dX7_isTwo_1 ?_
  refine wp_lconst (v := 0) dX7_isTwo_2 rfl ?_
  refine wp_lconst (v := 1) dX7_isTwo_3 rfl ?_
  refine wp_callS_3 kX7_43 dX7_isTwo_4 (c_X7_in (lo := 0) (hi := 1) (by decide) (by decide) ?_) ⟨Nat.le_of_ble_eq_true rfl, Nat.le_of_ble_eq_true rfl, Nat.le_of_ble_eq_true rfl⟩ (Nat.le_of_ble_eq_true rfl)
  refine wp_zret dX7_isTwo_7 rfl (wi_nar _ _ _) rfl ?_
  exact hQ
def bshS (x l : Int32) : Int32 := if wi x 0 3 = 0 then 0 else if wi l 0 3 = 0 then 0 else 1
set_option maxRecDepth 100000 in
set_option maxHeartbeats 4000000 in
theorem c_X7_isSheet {κ : KX} {M : MM} {Q : Option Value → va_W → Prop} {x l : Int32}  (hQ : Q (some (.int (bshS x l))) (wM κ (M))) : CT κ (1, 0, 0) mX7_isSheet [.int x, .int l] (wM κ M) Q := by
  refine CT.of okX7_isSheet [some (.int x), some (.int l)] (Nat.le_of_ble_eq_true rfl) rfl ?_
  refine wp_iload_0 dX7_isSheet_0 ?_
  refine wp_i2l dX7_isSheet_1 ?_
  refine wp_lconst (v := 0) dX7_isSheet_2 rfl ?_
  refine wp_ldc2 nX7_86 dX7_isSheet_3 ?_
  refine wp_callS_3 kX7_43 dX7_isSheet_6 (c_X7_in (lo := 0) (hi := 3) (by decide) (by decide) ?_) ⟨Nat.le_of_ble_eq_true rfl, Nat.le_of_ble_eq_true rfl, Nat.le_of_ble_eq_true rfl⟩ (Nat.le_of_ble_eq_true rfl)
  refine wp_if_eq (tgt := 28) dX7_isSheet_9 rfl (fun c9 => ?_) (fun c9 => ?_)
  · refine wp_iconst (v := 0) dX7_isSheet_28 rfl ?_
    refine wp_zret dX7_isSheet_29 rfl rfl rfl ?_
    first
      | exact Qe hQ (if_pos c9).symm rfl
      | exact Qe hQ ((if_neg c9).trans (if_pos c21)).symm rfl
      | exact Qe hQ ((if_neg c9).trans (if_neg c21)).symm rfl
  · refine wp_iload_1 dX7_isSheet_12 ?_
    refine wp_i2l dX7_isSheet_13 ?_
    refine wp_lconst (v := 0) dX7_isSheet_14 rfl ?_
    refine wp_ldc2 nX7_86 dX7_isSheet_15 ?_
    refine wp_callS_3 kX7_43 dX7_isSheet_18 (c_X7_in (lo := 0) (hi := 3) (by decide) (by decide) ?_) ⟨Nat.le_of_ble_eq_true rfl, Nat.le_of_ble_eq_true rfl, Nat.le_of_ble_eq_true rfl⟩ (Nat.le_of_ble_eq_true rfl)
    refine wp_if_eq (tgt := 28) dX7_isSheet_21 rfl (fun c21 => ?_) (fun c21 => ?_)
    · refine wp_iconst (v := 0) dX7_isSheet_28 rfl ?_
      refine wp_zret dX7_isSheet_29 rfl rfl rfl ?_
      first
        | exact Qe hQ (if_pos c9).symm rfl
        | exact Qe hQ ((if_neg c9).trans (if_pos c21)).symm rfl
        | exact Qe hQ ((if_neg c9).trans (if_neg c21)).symm rfl
    · refine wp_iconst (v := 1) dX7_isSheet_24 rfl ?_
      refine wp_goto (tgt := 29) dX7_isSheet_25 rfl ?_
      refine wp_zret dX7_isSheet_29 rfl rfl rfl ?_
      first
        | exact Qe hQ (if_pos c9).symm rfl
        | exact Qe hQ ((if_neg c9).trans (if_pos c21)).symm rfl
        | exact Qe hQ ((if_neg c9).trans (if_neg c21)).symm rfl
theorem asQ_neg {v : Int32} (h : ¬ 0 ≤ v) : asQ v = 0 := by
  have h1 : v < 99 := by rw [i32_lt]; rw [i32_le] at h; have : (0 : Int32).toInt = 0 := rfl; have : (99 : Int32).toInt = 99 := rfl; omega
  rw [asQ, if_pos h1, if_neg (fun q => h (Int32.le_of_lt q))]
theorem asQ_hi {v : Int32} (h : ¬ v ≤ 99) : asQ v = 99 := by
  rw [asQ, if_neg (fun q => h (Int32.le_of_lt q)), if_pos (by decide)]
theorem asQ_mid {v : Int32} (h0 : 0 ≤ v) (h : v ≤ 99) : asQ v = v := by
  unfold asQ
  by_cases h1 : v < 99
  · rw [if_pos h1]
    by_cases h2 : 0 < v
    · rw [if_pos h2]
    · rw [if_neg h2]
      rw [i32_le] at h0
      rw [i32_lt] at h2
      rw [i32_eq]
      omega
  · rw [if_neg h1, if_pos (by decide)]
    rw [i32_le] at h
    rw [i32_lt] at h1
    rw [i32_eq]
    omega
set_option maxRecDepth 100000 in
set_option maxHeartbeats 4000000 in
theorem c_X7_bound {κ : KX} {M : MM} {Q : Option Value → va_W → Prop} {v : Int32}  (hQ : Q (some (.int (asQ v))) (wM κ (M))) : CT κ (0, 0, 0) mX7_bound [.int v] (wM κ M) Q := by
  refine CT.of okX7_bound [some (.int v)] (Nat.le_of_ble_eq_true rfl) rfl ?_
  refine wp_iload_0 dX7_bound_0 ?_
  refine wp_if_ge (tgt := 8) dX7_bound_1 rfl (fun c1 => ?_) (fun c1 => ?_)
  · refine wp_iload_0 dX7_bound_8 ?_
    refine wp_bipush (v := 99) dX7_bound_9 rfl ?_
    refine wp_icmp_le (tgt := 19) dX7_bound_11 rfl (fun c11 => ?_) (fun c11 => ?_)
    · refine wp_iload_0 dX7_bound_19 ?_
      refine wp_iret dX7_bound_20 rfl rfl ?_
      first
        | exact Qe hQ (asQ_neg c1).symm rfl
        | exact Qe hQ (asQ_mid c1 c11).symm rfl
        | exact Qe hQ (asQ_hi c11).symm rfl
    · refine wp_bipush (v := 99) dX7_bound_14 rfl ?_
      refine wp_goto (tgt := 20) dX7_bound_16 rfl ?_
      refine wp_iret dX7_bound_20 rfl rfl ?_
      first
        | exact Qe hQ (asQ_neg c1).symm rfl
        | exact Qe hQ (asQ_mid c1 c11).symm rfl
        | exact Qe hQ (asQ_hi c11).symm rfl
  · refine wp_iconst (v := 0) dX7_bound_4 rfl ?_
    refine wp_goto (tgt := 20) dX7_bound_5 rfl ?_
    refine wp_iret dX7_bound_20 rfl rfl ?_
    first
      | exact Qe hQ (asQ_neg c1).symm rfl
      | exact Qe hQ (asQ_mid c1 c11).symm rfl
      | exact Qe hQ (asQ_hi c11).symm rfl
set_option maxRecDepth 100000 in
set_option maxHeartbeats 4000000 in
theorem c_X7_galls {κ : KX} {M : MM} {Q : Option Value → va_W → Prop} {k : Nat} {h : Nat → Int32} {a b w : Nat} (ha : AR k 223) (h1 : a < 6) (h2 : b < 6) (h3 : w < 5) (hQ : Q (some (.int (gal (h (4 + a)) (h (10 + b)) (h (22 + w))))) (wM κ (rI M k h))) : CT κ (0, 0, 0) mX7_galls [rv κ k, .int (nI a), .int (nI b), .int (nI w)] (wM κ (rI M k h)) Q := by
  refine CT.of okX7_galls [some (rv κ k), some (.int (nI a)), some (.int (nI b)), some (.int (nI w)), none, none] (Nat.le_of_ble_eq_true rfl) rfl ?_
  refine wp_rload_0 dX7_galls_0 ?_
  refine wp_iconst (v := 4) dX7_galls_1 rfl ?_
  refine wp_iload_1 dX7_galls_2 ?_
  refine wp_iadd dX7_galls_3 ?_
  refine wp_aldF (j := (4 + a)) dX7_galls_4 ha (nI_add _ _) (by omega) ?_
  generalize hkq : h (4 + a) = kq0 at hQ ⊢
  refine wp_istore_4 dX7_galls_5 (Nat.le_of_ble_eq_true rfl) rfl ?_
  refine wp_iload_4 dX7_galls_7 ?_
  refine wp_iconst (v := 3) dX7_galls_9 rfl ?_
  refine wp_icmp_ne (tgt := 17) dX7_galls_10 rfl (fun c10 => ?_) (fun c10 => ?_)
  · refine wp_rload_0 dX7_galls_17 ?_
    refine wp_bipush (v := 10) dX7_galls_18 rfl ?_
    refine wp_iload_2 dX7_galls_20 ?_
    refine wp_iadd dX7_galls_21 ?_
    refine wp_aldF (j := (10 + b)) dX7_galls_22 ha (nI_add _ _) (by omega) ?_
    generalize hnq : h (10 + b) = nq0 at hQ ⊢
    refine wp_iconst (v := 3) dX7_galls_23 rfl ?_
    refine wp_idiv dX7_galls_24 (by decide) ?_
    refine wp_rload_0 dX7_galls_25 ?_
    refine wp_bipush (v := 22) dX7_galls_26 rfl ?_
    refine wp_iload_3 dX7_galls_28 ?_
    refine wp_iadd dX7_galls_29 ?_
    refine wp_aldF (j := (22 + w)) dX7_galls_30 ha (nI_add _ _) (by omega) ?_
    generalize hcq : h (22 + w) = cq0 at hQ ⊢
    refine wp_iconst (v := 5) dX7_galls_31 rfl ?_
    refine wp_idiv dX7_galls_32 (by decide) ?_
    refine wp_iadd dX7_galls_33 ?_
    refine wp_istore_5 dX7_galls_34 (Nat.le_of_ble_eq_true rfl) rfl ?_
    refine wp_iload_4 dX7_galls_36 ?_
    refine sw_1_4 kq0 (fun hzQ => ?_) (fun hzQ => ?_) (fun hzQ => ?_) (fun hzQ => ?_) (fun hzQ => ?_)
    · rw [hzQ] at hQ c10 ⊢
      clear hkq hzQ
      refine wp_switch dX7_galls_38 68 rfl (fun _ => (Nat.le_of_ble_eq_true rfl)) ?_
      refine wp_iconst (v := 2) dX7_galls_68 rfl ?_
      refine wp_iload_5 dX7_galls_69 ?_
      refine wp_imul dX7_galls_71 ?_
      refine wp_iret dX7_galls_72 rfl rfl ?_
      refine Qe hQ ?_ rfl
      first
        | exact absurd rfl c10
        | exact absurd c10 (by decide)
        | (simp [gal, galP]; done)
        | (simp [gal, galP, c10]; done)
        | (simp [gal, galP]; (try simp at c75); intro hh; exact absurd hh (Int32.not_lt.mpr c75))
        | (simp [gal, galP]; (try simp at c75); intro hh; exact absurd c75 (Int32.not_lt.mpr hh))
        | (have e1 : ¬ kq0 = 1 := sw_default (k := 1) hzQ (by decide) (by decide) (by decide)
           have e2 : ¬ kq0 = 2 := sw_default (k := 2) hzQ (by decide) (by decide) (by decide)
           have e3 : ¬ kq0 = 3 := sw_default (k := 3) hzQ (by decide) (by decide) (by decide)
           have e4 : ¬ kq0 = 4 := sw_default (k := 4) hzQ (by decide) (by decide) (by decide)
           simp_all [gal, galP]; done)
    · rw [hzQ] at hQ c10 ⊢
      clear hkq hzQ
      refine wp_switch dX7_galls_38 73 rfl (fun _ => (Nat.le_of_ble_eq_true rfl)) ?_
      refine wp_iload_5 dX7_galls_73 ?_
      refine wp_if_le (tgt := 85) dX7_galls_75 rfl (fun c75 => ?_) (fun c75 => ?_)
      · refine wp_iconst (v := 0) dX7_galls_85 rfl ?_
        refine wp_iret dX7_galls_86 rfl rfl ?_
        refine Qe hQ ?_ rfl
        first
          | exact absurd rfl c10
          | exact absurd c10 (by decide)
          | (simp [gal, galP]; done)
          | (simp [gal, galP, c10]; done)
          | (simp [gal, galP]; (try simp at c75); intro hh; exact absurd hh (Int32.not_lt.mpr c75))
          | (simp [gal, galP]; (try simp at c75); intro hh; exact absurd c75 (Int32.not_lt.mpr hh))
          | (have e1 : ¬ kq0 = 1 := sw_default (k := 1) hzQ (by decide) (by decide) (by decide)
             have e2 : ¬ kq0 = 2 := sw_default (k := 2) hzQ (by decide) (by decide) (by decide)
             have e3 : ¬ kq0 = 3 := sw_default (k := 3) hzQ (by decide) (by decide) (by decide)
             have e4 : ¬ kq0 = 4 := sw_default (k := 4) hzQ (by decide) (by decide) (by decide)
             simp_all [gal, galP]; done)
      · refine wp_iload_5 dX7_galls_78 ?_
        refine wp_iconst (v := 1) dX7_galls_80 rfl ?_
        refine wp_isub dX7_galls_81 ?_
        refine wp_goto (tgt := 86) dX7_galls_82 rfl ?_
        refine wp_iret dX7_galls_86 rfl rfl ?_
        refine Qe hQ ?_ rfl
        first
          | exact absurd rfl c10
          | exact absurd c10 (by decide)
          | (simp [gal, galP]; done)
          | (simp [gal, galP, c10]; done)
          | (simp [gal, galP]; (try simp at c75); intro hh; exact absurd hh (Int32.not_lt.mpr c75))
          | (simp [gal, galP]; (try simp at c75); intro hh; exact absurd c75 (Int32.not_lt.mpr hh))
          | (have e1 : ¬ kq0 = 1 := sw_default (k := 1) hzQ (by decide) (by decide) (by decide)
             have e2 : ¬ kq0 = 2 := sw_default (k := 2) hzQ (by decide) (by decide) (by decide)
             have e3 : ¬ kq0 = 3 := sw_default (k := 3) hzQ (by decide) (by decide) (by decide)
             have e4 : ¬ kq0 = 4 := sw_default (k := 4) hzQ (by decide) (by decide) (by decide)
             simp_all [gal, galP]; done)
    · rw [hzQ] at hQ c10 ⊢
      clear hkq hzQ
      refine wp_switch dX7_galls_38 73 rfl (fun _ => (Nat.le_of_ble_eq_true rfl)) ?_
      refine wp_iload_5 dX7_galls_73 ?_
      refine wp_if_le (tgt := 85) dX7_galls_75 rfl (fun c75 => ?_) (fun c75 => ?_)
      · refine wp_iconst (v := 0) dX7_galls_85 rfl ?_
        refine wp_iret dX7_galls_86 rfl rfl ?_
        refine Qe hQ ?_ rfl
        first
          | exact absurd rfl c10
          | exact absurd c10 (by decide)
          | (simp [gal, galP]; done)
          | (simp [gal, galP, c10]; done)
          | (simp [gal, galP]; (try simp at c75); intro hh; exact absurd hh (Int32.not_lt.mpr c75))
          | (simp [gal, galP]; (try simp at c75); intro hh; exact absurd c75 (Int32.not_lt.mpr hh))
          | (have e1 : ¬ kq0 = 1 := sw_default (k := 1) hzQ (by decide) (by decide) (by decide)
             have e2 : ¬ kq0 = 2 := sw_default (k := 2) hzQ (by decide) (by decide) (by decide)
             have e3 : ¬ kq0 = 3 := sw_default (k := 3) hzQ (by decide) (by decide) (by decide)
             have e4 : ¬ kq0 = 4 := sw_default (k := 4) hzQ (by decide) (by decide) (by decide)
             simp_all [gal, galP]; done)
      · refine wp_iload_5 dX7_galls_78 ?_
        refine wp_iconst (v := 1) dX7_galls_80 rfl ?_
        refine wp_isub dX7_galls_81 ?_
        refine wp_goto (tgt := 86) dX7_galls_82 rfl ?_
        refine wp_iret dX7_galls_86 rfl rfl ?_
        refine Qe hQ ?_ rfl
        first
          | exact absurd rfl c10
          | exact absurd c10 (by decide)
          | (simp [gal, galP]; done)
          | (simp [gal, galP, c10]; done)
          | (simp [gal, galP]; (try simp at c75); intro hh; exact absurd hh (Int32.not_lt.mpr c75))
          | (simp [gal, galP]; (try simp at c75); intro hh; exact absurd c75 (Int32.not_lt.mpr hh))
          | (have e1 : ¬ kq0 = 1 := sw_default (k := 1) hzQ (by decide) (by decide) (by decide)
             have e2 : ¬ kq0 = 2 := sw_default (k := 2) hzQ (by decide) (by decide) (by decide)
             have e3 : ¬ kq0 = 3 := sw_default (k := 3) hzQ (by decide) (by decide) (by decide)
             have e4 : ¬ kq0 = 4 := sw_default (k := 4) hzQ (by decide) (by decide) (by decide)
             simp_all [gal, galP]; done)
    · rw [hzQ] at hQ c10 ⊢
      clear hkq hzQ
      refine wp_switch dX7_galls_38 87 rfl (fun _ => (Nat.le_of_ble_eq_true rfl)) ?_
      refine wp_iconst (v := 2) dX7_galls_87 rfl ?_
      refine wp_iload_5 dX7_galls_88 ?_
      refine wp_imul dX7_galls_90 ?_
      refine wp_iconst (v := 1) dX7_galls_91 rfl ?_
      refine wp_iadd dX7_galls_92 ?_
      refine wp_iret dX7_galls_93 rfl rfl ?_
      refine Qe hQ ?_ rfl
      first
        | exact absurd rfl c10
        | exact absurd c10 (by decide)
        | (simp [gal, galP]; done)
        | (simp [gal, galP, c10]; done)
        | (simp [gal, galP]; (try simp at c75); intro hh; exact absurd hh (Int32.not_lt.mpr c75))
        | (simp [gal, galP]; (try simp at c75); intro hh; exact absurd c75 (Int32.not_lt.mpr hh))
        | (have e1 : ¬ kq0 = 1 := sw_default (k := 1) hzQ (by decide) (by decide) (by decide)
           have e2 : ¬ kq0 = 2 := sw_default (k := 2) hzQ (by decide) (by decide) (by decide)
           have e3 : ¬ kq0 = 3 := sw_default (k := 3) hzQ (by decide) (by decide) (by decide)
           have e4 : ¬ kq0 = 4 := sw_default (k := 4) hzQ (by decide) (by decide) (by decide)
           simp_all [gal, galP]; done)
    · refine wp_switch dX7_galls_38 94 (by rw [if_pos hzQ]; rfl) (fun q => absurd hzQ q) ?_
      refine wp_iload_5 dX7_galls_94 ?_
      refine wp_iret dX7_galls_96 rfl rfl ?_
      refine Qe hQ ?_ rfl
      first
        | exact absurd rfl c10
        | exact absurd c10 (by decide)
        | (simp [gal, galP]; done)
        | (simp [gal, galP, c10]; done)
        | (simp [gal, galP]; (try simp at c75); intro hh; exact absurd hh (Int32.not_lt.mpr c75))
        | (simp [gal, galP]; (try simp at c75); intro hh; exact absurd c75 (Int32.not_lt.mpr hh))
        | (have e1 : ¬ kq0 = 1 := sw_default (k := 1) hzQ (by decide) (by decide) (by decide)
           have e2 : ¬ kq0 = 2 := sw_default (k := 2) hzQ (by decide) (by decide) (by decide)
           have e3 : ¬ kq0 = 3 := sw_default (k := 3) hzQ (by decide) (by decide) (by decide)
           have e4 : ¬ kq0 = 4 := sw_default (k := 4) hzQ (by decide) (by decide) (by decide)
           simp_all [gal, galP]; done)
  · refine wp_iconst (v := 0) dX7_galls_13 rfl ?_
    refine wp_goto (tgt := 25) dX7_galls_14 rfl ?_
    refine wp_rload_0 dX7_galls_25 ?_
    refine wp_bipush (v := 22) dX7_galls_26 rfl ?_
    refine wp_iload_3 dX7_galls_28 ?_
    refine wp_iadd dX7_galls_29 ?_
    refine wp_aldF (j := (22 + w)) dX7_galls_30 ha (nI_add _ _) (by omega) ?_
    generalize hcq : h (22 + w) = cq0 at hQ ⊢
    refine wp_iconst (v := 5) dX7_galls_31 rfl ?_
    refine wp_idiv dX7_galls_32 (by decide) ?_
    refine wp_iadd dX7_galls_33 ?_
    refine wp_istore_5 dX7_galls_34 (Nat.le_of_ble_eq_true rfl) rfl ?_
    refine wp_iload_4 dX7_galls_36 ?_
    refine sw_1_4 kq0 (fun hzQ => ?_) (fun hzQ => ?_) (fun hzQ => ?_) (fun hzQ => ?_) (fun hzQ => ?_)
    · rw [hzQ] at hQ c10 ⊢
      clear hkq hzQ
      refine wp_switch dX7_galls_38 68 rfl (fun _ => (Nat.le_of_ble_eq_true rfl)) ?_
      refine wp_iconst (v := 2) dX7_galls_68 rfl ?_
      refine wp_iload_5 dX7_galls_69 ?_
      refine wp_imul dX7_galls_71 ?_
      refine wp_iret dX7_galls_72 rfl rfl ?_
      refine Qe hQ ?_ rfl
      first
        | exact absurd rfl c10
        | exact absurd c10 (by decide)
        | (simp [gal, galP]; done)
        | (simp [gal, galP, c10]; done)
        | (simp [gal, galP]; (try simp at c75); intro hh; exact absurd hh (Int32.not_lt.mpr c75))
        | (simp [gal, galP]; (try simp at c75); intro hh; exact absurd c75 (Int32.not_lt.mpr hh))
        | (have e1 : ¬ kq0 = 1 := sw_default (k := 1) hzQ (by decide) (by decide) (by decide)
           have e2 : ¬ kq0 = 2 := sw_default (k := 2) hzQ (by decide) (by decide) (by decide)
           have e3 : ¬ kq0 = 3 := sw_default (k := 3) hzQ (by decide) (by decide) (by decide)
           have e4 : ¬ kq0 = 4 := sw_default (k := 4) hzQ (by decide) (by decide) (by decide)
           simp_all [gal, galP]; done)
    · rw [hzQ] at hQ c10 ⊢
      clear hkq hzQ
      refine wp_switch dX7_galls_38 73 rfl (fun _ => (Nat.le_of_ble_eq_true rfl)) ?_
      refine wp_iload_5 dX7_galls_73 ?_
      refine wp_if_le (tgt := 85) dX7_galls_75 rfl (fun c75 => ?_) (fun c75 => ?_)
      · refine wp_iconst (v := 0) dX7_galls_85 rfl ?_
        refine wp_iret dX7_galls_86 rfl rfl ?_
        refine Qe hQ ?_ rfl
        first
          | exact absurd rfl c10
          | exact absurd c10 (by decide)
          | (simp [gal, galP]; done)
          | (simp [gal, galP, c10]; done)
          | (simp [gal, galP]; (try simp at c75); intro hh; exact absurd hh (Int32.not_lt.mpr c75))
          | (simp [gal, galP]; (try simp at c75); intro hh; exact absurd c75 (Int32.not_lt.mpr hh))
          | (have e1 : ¬ kq0 = 1 := sw_default (k := 1) hzQ (by decide) (by decide) (by decide)
             have e2 : ¬ kq0 = 2 := sw_default (k := 2) hzQ (by decide) (by decide) (by decide)
             have e3 : ¬ kq0 = 3 := sw_default (k := 3) hzQ (by decide) (by decide) (by decide)
             have e4 : ¬ kq0 = 4 := sw_default (k := 4) hzQ (by decide) (by decide) (by decide)
             simp_all [gal, galP]; done)
      · refine wp_iload_5 dX7_galls_78 ?_
        refine wp_iconst (v := 1) dX7_galls_80 rfl ?_
        refine wp_isub dX7_galls_81 ?_
        refine wp_goto (tgt := 86) dX7_galls_82 rfl ?_
        refine wp_iret dX7_galls_86 rfl rfl ?_
        refine Qe hQ ?_ rfl
        first
          | exact absurd rfl c10
          | exact absurd c10 (by decide)
          | (simp [gal, galP]; done)
          | (simp [gal, galP, c10]; done)
          | (simp [gal, galP]; (try simp at c75); intro hh; exact absurd hh (Int32.not_lt.mpr c75))
          | (simp [gal, galP]; (try simp at c75); intro hh; exact absurd c75 (Int32.not_lt.mpr hh))
          | (have e1 : ¬ kq0 = 1 := sw_default (k := 1) hzQ (by decide) (by decide) (by decide)
             have e2 : ¬ kq0 = 2 := sw_default (k := 2) hzQ (by decide) (by decide) (by decide)
             have e3 : ¬ kq0 = 3 := sw_default (k := 3) hzQ (by decide) (by decide) (by decide)
             have e4 : ¬ kq0 = 4 := sw_default (k := 4) hzQ (by decide) (by decide) (by decide)
             simp_all [gal, galP]; done)
    · rw [hzQ] at hQ c10 ⊢
      clear hkq hzQ
      refine wp_switch dX7_galls_38 73 rfl (fun _ => (Nat.le_of_ble_eq_true rfl)) ?_
      refine wp_iload_5 dX7_galls_73 ?_
      refine wp_if_le (tgt := 85) dX7_galls_75 rfl (fun c75 => ?_) (fun c75 => ?_)
      · refine wp_iconst (v := 0) dX7_galls_85 rfl ?_
        refine wp_iret dX7_galls_86 rfl rfl ?_
        refine Qe hQ ?_ rfl
        first
          | exact absurd rfl c10
          | exact absurd c10 (by decide)
          | (simp [gal, galP]; done)
          | (simp [gal, galP, c10]; done)
          | (simp [gal, galP]; (try simp at c75); intro hh; exact absurd hh (Int32.not_lt.mpr c75))
          | (simp [gal, galP]; (try simp at c75); intro hh; exact absurd c75 (Int32.not_lt.mpr hh))
          | (have e1 : ¬ kq0 = 1 := sw_default (k := 1) hzQ (by decide) (by decide) (by decide)
             have e2 : ¬ kq0 = 2 := sw_default (k := 2) hzQ (by decide) (by decide) (by decide)
             have e3 : ¬ kq0 = 3 := sw_default (k := 3) hzQ (by decide) (by decide) (by decide)
             have e4 : ¬ kq0 = 4 := sw_default (k := 4) hzQ (by decide) (by decide) (by decide)
             simp_all [gal, galP]; done)
      · refine wp_iload_5 dX7_galls_78 ?_
        refine wp_iconst (v := 1) dX7_galls_80 rfl ?_
        refine wp_isub dX7_galls_81 ?_
        refine wp_goto (tgt := 86) dX7_galls_82 rfl ?_
        refine wp_iret dX7_galls_86 rfl rfl ?_
        refine Qe hQ ?_ rfl
        first
          | exact absurd rfl c10
          | exact absurd c10 (by decide)
          | (simp [gal, galP]; done)
          | (simp [gal, galP, c10]; done)
          | (simp [gal, galP]; (try simp at c75); intro hh; exact absurd hh (Int32.not_lt.mpr c75))
          | (simp [gal, galP]; (try simp at c75); intro hh; exact absurd c75 (Int32.not_lt.mpr hh))
          | (have e1 : ¬ kq0 = 1 := sw_default (k := 1) hzQ (by decide) (by decide) (by decide)
             have e2 : ¬ kq0 = 2 := sw_default (k := 2) hzQ (by decide) (by decide) (by decide)
             have e3 : ¬ kq0 = 3 := sw_default (k := 3) hzQ (by decide) (by decide) (by decide)
             have e4 : ¬ kq0 = 4 := sw_default (k := 4) hzQ (by decide) (by decide) (by decide)
             simp_all [gal, galP]; done)
    · rw [hzQ] at hQ c10 ⊢
      clear hkq hzQ
      refine wp_switch dX7_galls_38 87 rfl (fun _ => (Nat.le_of_ble_eq_true rfl)) ?_
      refine wp_iconst (v := 2) dX7_galls_87 rfl ?_
      refine wp_iload_5 dX7_galls_88 ?_
      refine wp_imul dX7_galls_90 ?_
      refine wp_iconst (v := 1) dX7_galls_91 rfl ?_
      refine wp_iadd dX7_galls_92 ?_
      refine wp_iret dX7_galls_93 rfl rfl ?_
      refine Qe hQ ?_ rfl
      first
        | exact absurd rfl c10
        | exact absurd c10 (by decide)
        | (simp [gal, galP]; done)
        | (simp [gal, galP, c10]; done)
        | (simp [gal, galP]; (try simp at c75); intro hh; exact absurd hh (Int32.not_lt.mpr c75))
        | (simp [gal, galP]; (try simp at c75); intro hh; exact absurd c75 (Int32.not_lt.mpr hh))
        | (have e1 : ¬ kq0 = 1 := sw_default (k := 1) hzQ (by decide) (by decide) (by decide)
           have e2 : ¬ kq0 = 2 := sw_default (k := 2) hzQ (by decide) (by decide) (by decide)
           have e3 : ¬ kq0 = 3 := sw_default (k := 3) hzQ (by decide) (by decide) (by decide)
           have e4 : ¬ kq0 = 4 := sw_default (k := 4) hzQ (by decide) (by decide) (by decide)
           simp_all [gal, galP]; done)
    · refine wp_switch dX7_galls_38 94 (by rw [if_pos hzQ]; rfl) (fun q => absurd hzQ q) ?_
      refine wp_iload_5 dX7_galls_94 ?_
      refine wp_iret dX7_galls_96 rfl rfl ?_
      refine Qe hQ ?_ rfl
      first
        | exact absurd rfl c10
        | exact absurd c10 (by decide)
        | (simp [gal, galP]; done)
        | (simp [gal, galP, c10]; done)
        | (simp [gal, galP]; (try simp at c75); intro hh; exact absurd hh (Int32.not_lt.mpr c75))
        | (simp [gal, galP]; (try simp at c75); intro hh; exact absurd c75 (Int32.not_lt.mpr hh))
        | (have e1 : ¬ kq0 = 1 := sw_default (k := 1) hzQ (by decide) (by decide) (by decide)
           have e2 : ¬ kq0 = 2 := sw_default (k := 2) hzQ (by decide) (by decide) (by decide)
           have e3 : ¬ kq0 = 3 := sw_default (k := 3) hzQ (by decide) (by decide) (by decide)
           have e4 : ¬ kq0 = 4 := sw_default (k := 4) hzQ (by decide) (by decide) (by decide)
           simp_all [gal, galP]; done)
def wkf (h : Nat → Int32) (w : Nat) : Int32 := gal (h (4 + w)) (h (10 + (w + 1))) (h (22 + w)) + gal (h (4 + (w + 1))) (h (10 + w)) (h (22 + w)) - h 2
set_option maxRecDepth 100000 in
set_option maxHeartbeats 4000000 in
theorem c_X7_grows {κ : KX} {M : MM} {Q : Option Value → va_W → Prop} {k : Nat} {h : Nat → Int32} {w : Nat} (ha : AR k 223) (hw : w < 5) (hQ : Q (some (.int (wkf h w))) (wM κ (rI M k h))) : CT κ (1, 0, 0) mX7_grows [rv κ k, .int (nI w)] (wM κ (rI M k h)) Q := by
  refine CT.of okX7_grows [some (rv κ k), some (.int (nI w))] (Nat.le_of_ble_eq_true rfl) rfl ?_
  refine wp_rload_0 dX7_grows_0 ?_
  refine wp_iload_1 dX7_grows_1 ?_
  refine wp_iload_1 dX7_grows_2 ?_
  refine wp_iconst (v := 1) dX7_grows_3 rfl ?_
  refine wp_iadd dX7_grows_4 ?_
  refine wp_iload_1 dX7_grows_5 ?_
  rw [show nI w + 1 = nI (w + 1) from nI_1 w]
  refine wp_callS_4 kX7_47 dX7_grows_6 (c_X7_galls ha (by omega) (by omega) hw ?_) ⟨Nat.le_of_ble_eq_true rfl, Nat.le_of_ble_eq_true rfl, Nat.le_of_ble_eq_true rfl⟩ (Nat.le_of_ble_eq_true rfl)
  refine wp_rload_0 dX7_grows_9 ?_
  refine wp_iload_1 dX7_grows_10 ?_
  refine wp_iconst (v := 1) dX7_grows_11 rfl ?_
  refine wp_iadd dX7_grows_12 ?_
  refine wp_iload_1 dX7_grows_13 ?_
  refine wp_iload_1 dX7_grows_14 ?_
  rw [show nI w + 1 = nI (w + 1) from nI_1 w]
  refine wp_callS_4 kX7_47 dX7_grows_15 (c_X7_galls ha (by omega) (by omega) hw ?_) ⟨Nat.le_of_ble_eq_true rfl, Nat.le_of_ble_eq_true rfl, Nat.le_of_ble_eq_true rfl⟩ (Nat.le_of_ble_eq_true rfl)
  refine wp_iadd dX7_grows_18 ?_
  refine wp_rload_0 dX7_grows_19 ?_
  refine wp_iconst (v := 2) dX7_grows_20 rfl ?_
  refine wp_aldF (j := 2) dX7_grows_21 ha (rfl) (by omega) ?_
  refine wp_isub dX7_grows_22 ?_
  refine wp_iret dX7_grows_23 rfl rfl ?_
  exact hQ
theorem gm1_le {g j : Nat} (h : g - 1 ≤ j) (hg : g < 1000) (hj : j < 1000) : nI g - 1 ≤ nI j := by
  rw [i32_le, sub1_toInt hg, nI_toInt (by omega)]
  omega
theorem gm1_gt {g j : Nat} (h : j < g - 1) (hg : g < 1000) : ¬ nI g - 1 ≤ nI j := by
  rw [i32_le, sub1_toInt hg, nI_toInt (by omega)]
  omega
def mcF (h : Nat → Int32) (w : Nat) : Nat → Int32 :=
  let p := cst (h (27 + w) / 5 - h (22 + w))
  let h1 := upd h (16 + w) (h (16 + w) + p)
  let h2 := upd h1 (16 + w + 1) (h1 (16 + w + 1) + p)
  upd h2 (22 + w) (h (27 + w) / 5)
def mch (h : Nat → Int32) : Nat → (Nat → Int32) × Int32
  | 0 => (h, 0)
  | j + 1 => (mcF (mch h j).1 j, if (mch h j).2 = 0 then (if (mch h j).1 (27 + j) / 5 - (mch h j).1 (22 + j) = 0 then 0 else 1) else 1)
theorem mcF_lo (h : Nat → Int32) (w : Nat) {a : Nat} (ha : a < 16) : mcF h w a = h a := by
  have e1 : a ≠ 16 + w := by omega
  have e2 : a ≠ 16 + w + 1 := by omega
  have e3 : a ≠ 22 + w := by omega
  simp [mcF, upd, e1, e2, e3]
theorem mch_lo (h : Nat → Int32) {a : Nat} (ha : a < 16) : ∀ j, (mch h j).1 a = h a
  | 0 => rfl
  | j + 1 => by
    show mcF (mch h j).1 j a = h a
    rw [mcF_lo _ _ ha]
    exact mch_lo h ha j
theorem mch_01 (h : Nat → Int32) : ∀ j, (mch h j).2 = 0 ∨ (mch h j).2 = 1
  | 0 => Or.inl rfl
  | j + 1 => by
    simp only [mch]
    split
    · split
      · exact Or.inl rfl
      · exact Or.inr rfl
    · exact Or.inr rfl
set_option maxRecDepth 100000 in
set_option maxHeartbeats 4000000 in
theorem l_X7_michaelmas {κ : KX} {M : MM} {Q : Option Value → va_W → Prop} {k : Nat} {h : Nat → Int32} {g : Nat} (ha : AR k 223) (hg : h 0 = nI g) (h6 : g ≤ 6) (hx : WP κ (0, 0, 0) mX7_michaelmas 101 [some (rv κ k), some (.int (mch h ((g - 1))).2), some (.int (nI ((g - 1)))), none, none, none] [] (wM κ (rI M k ((mch h ((g - 1))).1))) (0, 0) Q) : ∀ n j, j + n = (g - 1) → WP κ (0, 0, 0) mX7_michaelmas 4 [some (rv κ k), some (.int (mch h j).2), some (.int (nI j)), none, none, none] [] (wM κ (rI M k ((mch h j).1))) (0, 0) Q := by
  intro n
  induction n with
  | zero =>
    intro j hn
    have hn : j = (g - 1) := hn
    refine wp_iload_2 dX7_michaelmas_4 ?_
    refine wp_rload_0 dX7_michaelmas_5 ?_
    refine wp_iconst (v := 0) dX7_michaelmas_6 rfl ?_
    refine wp_aldF (j := 0) dX7_michaelmas_7 ha (rfl) (by omega) ?_
    rw [mch_lo h (by decide), hg]
    refine wp_iconst (v := 1) dX7_michaelmas_8 rfl ?_
    refine wp_isub dX7_michaelmas_9 ?_
    refine wp_icmp_ge (tgt := 101) dX7_michaelmas_10 rfl (fun c10 => ?_) (fun c10 => absurd (gm1_le (by omega) (by omega) (by omega)) c10)
    subst hn
    exact hx
  | succ n ih =>
    intro j hn
    refine wp_iload_2 dX7_michaelmas_4 ?_
    refine wp_rload_0 dX7_michaelmas_5 ?_
    refine wp_iconst (v := 0) dX7_michaelmas_6 rfl ?_
    refine wp_aldF (j := 0) dX7_michaelmas_7 ha (rfl) (by omega) ?_
    rw [mch_lo h (by decide), hg]
    refine wp_iconst (v := 1) dX7_michaelmas_8 rfl ?_
    refine wp_isub dX7_michaelmas_9 ?_
    refine wp_icmp_ge (tgt := 101) dX7_michaelmas_10 rfl (fun c10 => absurd c10 (gm1_gt (by omega) (by omega))) (fun c10 => ?_)
    refine wp_rload_0 dX7_michaelmas_13 ?_
    refine wp_bipush (v := 27) dX7_michaelmas_14 rfl ?_
    refine wp_iload_2 dX7_michaelmas_16 ?_
    refine wp_iadd dX7_michaelmas_17 ?_
    refine wp_aldF (j := (27 + j)) dX7_michaelmas_18 ha (nI_add _ _) (by omega) ?_
    refine wp_iconst (v := 5) dX7_michaelmas_19 rfl ?_
    refine wp_idiv dX7_michaelmas_20 (by decide) ?_
    refine wp_istore_3 dX7_michaelmas_21 (Nat.le_of_ble_eq_true rfl) rfl ?_
    refine wp_iload_3 dX7_michaelmas_22 ?_
    refine wp_rload_0 dX7_michaelmas_23 ?_
    refine wp_bipush (v := 22) dX7_michaelmas_24 rfl ?_
    refine wp_iload_2 dX7_michaelmas_26 ?_
    refine wp_iadd dX7_michaelmas_27 ?_
    refine wp_aldF (j := (22 + j)) dX7_michaelmas_28 ha (nI_add _ _) (by omega) ?_
    refine wp_isub dX7_michaelmas_29 ?_
    refine wp_istore_4 dX7_michaelmas_30 (Nat.le_of_ble_eq_true rfl) rfl ?_
    refine wp_iload_4 dX7_michaelmas_32 ?_
    refine wp_if_le (tgt := 44) dX7_michaelmas_34 rfl (fun c34 => ?_) (fun c34 => ?_)
    · refine wp_iload_4 dX7_michaelmas_44 ?_
      refine wp_ineg dX7_michaelmas_46 ?_
      refine wp_istore_5 dX7_michaelmas_47 (Nat.le_of_ble_eq_true rfl) rfl ?_
      refine wp_rload_0 dX7_michaelmas_49 ?_
      refine wp_bipush (v := 16) dX7_michaelmas_50 rfl ?_
      refine wp_iload_2 dX7_michaelmas_52 ?_
      refine wp_iadd dX7_michaelmas_53 ?_
      refine wp_dup2_iv dX7_michaelmas_54 ?_
      refine wp_aldF (j := (16 + j)) dX7_michaelmas_55 ha (nI_add _ _) (by omega) ?_
      refine wp_iload_5 dX7_michaelmas_56 ?_
      refine wp_iadd dX7_michaelmas_58 ?_
      refine wp_astF (j := (16 + j)) dX7_michaelmas_59 ha (nI_add _ _) (by omega) ?_
      refine wp_rload_0 dX7_michaelmas_60 ?_
      refine wp_bipush (v := 16) dX7_michaelmas_61 rfl ?_
      refine wp_iload_2 dX7_michaelmas_63 ?_
      refine wp_iadd dX7_michaelmas_64 ?_
      refine wp_iconst (v := 1) dX7_michaelmas_65 rfl ?_
      refine wp_iadd dX7_michaelmas_66 ?_
      refine wp_dup2_iv dX7_michaelmas_67 ?_
      refine wp_aldF (j := ((16 + j) + 1)) dX7_michaelmas_68 ha ((congr (congrArg HAdd.hAdd (nI_add _ _)) (rfl)).trans (nI_add _ _)) (by omega) ?_
      refine wp_iload_5 dX7_michaelmas_69 ?_
      refine wp_iadd dX7_michaelmas_71 ?_
      refine wp_astF (j := ((16 + j) + 1)) dX7_michaelmas_72 ha ((congr (congrArg HAdd.hAdd (nI_add _ _)) (rfl)).trans (nI_add _ _)) (by omega) ?_
      refine wp_rload_0 dX7_michaelmas_73 ?_
      refine wp_bipush (v := 22) dX7_michaelmas_74 rfl ?_
      refine wp_iload_2 dX7_michaelmas_76 ?_
      refine wp_iadd dX7_michaelmas_77 ?_
      refine wp_iload_3 dX7_michaelmas_78 ?_
      refine wp_astF (j := (22 + j)) dX7_michaelmas_79 ha (nI_add _ _) (by omega) ?_
      refine wp_iload_1 dX7_michaelmas_80 ?_
      refine wp_if_ne (tgt := 89) dX7_michaelmas_81 rfl (fun c81 => ?_) (fun c81 => ?_)
      · refine wp_iconst (v := 1) dX7_michaelmas_89 rfl ?_
        refine wp_goto (tgt := 94) dX7_michaelmas_90 rfl ?_
        refine wp_istore_1 dX7_michaelmas_94 (Nat.le_of_ble_eq_true rfl) rfl ?_
        refine wp_iinc_2 (v := nI (j + 1)) dX7_michaelmas_95 (nI_inc _) (Nat.le_of_ble_eq_true rfl) rfl ?_
        refine wp_goto (tgt := 4) dX7_michaelmas_98 rfl ?_
        have hh := ih (j + 1) (by omega)
        have e2 : (mch h (j + 1)).1 = mcF (mch h j).1 j := rfl
        rw [e2] at hh
        unfold mcF at hh
        refine wp_drop_3 ?_
        refine wp_drop_4 ?_
        refine wp_drop_5 ?_
        first
          | rw [cst_neg c34] at hh
          | rw [cst_pos c34] at hh
        first
          | (rw [show (mch h (j + 1)).2 = 1 from if_neg c81] at hh; exact hh)
          | (rw [show (mch h (j + 1)).2 = 0 from (if_pos c81).trans (if_pos c86)] at hh; exact hh)
          | (rw [show (mch h (j + 1)).2 = 1 from (if_pos c81).trans (if_neg c86)] at hh; exact hh)
      · refine wp_iload_4 dX7_michaelmas_84 ?_
        refine wp_if_eq (tgt := 93) dX7_michaelmas_86 rfl (fun c86 => ?_) (fun c86 => ?_)
        · refine wp_iconst (v := 0) dX7_michaelmas_93 rfl ?_
          refine wp_istore_1 dX7_michaelmas_94 (Nat.le_of_ble_eq_true rfl) rfl ?_
          refine wp_iinc_2 (v := nI (j + 1)) dX7_michaelmas_95 (nI_inc _) (Nat.le_of_ble_eq_true rfl) rfl ?_
          refine wp_goto (tgt := 4) dX7_michaelmas_98 rfl ?_
          have hh := ih (j + 1) (by omega)
          have e2 : (mch h (j + 1)).1 = mcF (mch h j).1 j := rfl
          rw [e2] at hh
          unfold mcF at hh
          refine wp_drop_3 ?_
          refine wp_drop_4 ?_
          refine wp_drop_5 ?_
          first
            | rw [cst_neg c34] at hh
            | rw [cst_pos c34] at hh
          first
            | (rw [show (mch h (j + 1)).2 = 1 from if_neg c81] at hh; exact hh)
            | (rw [show (mch h (j + 1)).2 = 0 from (if_pos c81).trans (if_pos c86)] at hh; exact hh)
            | (rw [show (mch h (j + 1)).2 = 1 from (if_pos c81).trans (if_neg c86)] at hh; exact hh)
        · refine wp_iconst (v := 1) dX7_michaelmas_89 rfl ?_
          refine wp_goto (tgt := 94) dX7_michaelmas_90 rfl ?_
          refine wp_istore_1 dX7_michaelmas_94 (Nat.le_of_ble_eq_true rfl) rfl ?_
          refine wp_iinc_2 (v := nI (j + 1)) dX7_michaelmas_95 (nI_inc _) (Nat.le_of_ble_eq_true rfl) rfl ?_
          refine wp_goto (tgt := 4) dX7_michaelmas_98 rfl ?_
          have hh := ih (j + 1) (by omega)
          have e2 : (mch h (j + 1)).1 = mcF (mch h j).1 j := rfl
          rw [e2] at hh
          unfold mcF at hh
          refine wp_drop_3 ?_
          refine wp_drop_4 ?_
          refine wp_drop_5 ?_
          first
            | rw [cst_neg c34] at hh
            | rw [cst_pos c34] at hh
          first
            | (rw [show (mch h (j + 1)).2 = 1 from if_neg c81] at hh; exact hh)
            | (rw [show (mch h (j + 1)).2 = 0 from (if_pos c81).trans (if_pos c86)] at hh; exact hh)
            | (rw [show (mch h (j + 1)).2 = 1 from (if_pos c81).trans (if_neg c86)] at hh; exact hh)
    · refine wp_iconst (v := 2) dX7_michaelmas_37 rfl ?_
      refine wp_iload_4 dX7_michaelmas_38 ?_
      refine wp_imul dX7_michaelmas_40 ?_
      refine wp_goto (tgt := 47) dX7_michaelmas_41 rfl ?_
      refine wp_istore_5 dX7_michaelmas_47 (Nat.le_of_ble_eq_true rfl) rfl ?_
      refine wp_rload_0 dX7_michaelmas_49 ?_
      refine wp_bipush (v := 16) dX7_michaelmas_50 rfl ?_
      refine wp_iload_2 dX7_michaelmas_52 ?_
      refine wp_iadd dX7_michaelmas_53 ?_
      refine wp_dup2_iv dX7_michaelmas_54 ?_
      refine wp_aldF (j := (16 + j)) dX7_michaelmas_55 ha (nI_add _ _) (by omega) ?_
      refine wp_iload_5 dX7_michaelmas_56 ?_
      refine wp_iadd dX7_michaelmas_58 ?_
      refine wp_astF (j := (16 + j)) dX7_michaelmas_59 ha (nI_add _ _) (by omega) ?_
      refine wp_rload_0 dX7_michaelmas_60 ?_
      refine wp_bipush (v := 16) dX7_michaelmas_61 rfl ?_
      refine wp_iload_2 dX7_michaelmas_63 ?_
      refine wp_iadd dX7_michaelmas_64 ?_
      refine wp_iconst (v := 1) dX7_michaelmas_65 rfl ?_
      refine wp_iadd dX7_michaelmas_66 ?_
      refine wp_dup2_iv dX7_michaelmas_67 ?_
      refine wp_aldF (j := ((16 + j) + 1)) dX7_michaelmas_68 ha ((congr (congrArg HAdd.hAdd (nI_add _ _)) (rfl)).trans (nI_add _ _)) (by omega) ?_
      refine wp_iload_5 dX7_michaelmas_69 ?_
      refine wp_iadd dX7_michaelmas_71 ?_
      refine wp_astF (j := ((16 + j) + 1)) dX7_michaelmas_72 ha ((congr (congrArg HAdd.hAdd (nI_add _ _)) (rfl)).trans (nI_add _ _)) (by omega) ?_
      refine wp_rload_0 dX7_michaelmas_73 ?_
      refine wp_bipush (v := 22) dX7_michaelmas_74 rfl ?_
      refine wp_iload_2 dX7_michaelmas_76 ?_
      refine wp_iadd dX7_michaelmas_77 ?_
      refine wp_iload_3 dX7_michaelmas_78 ?_
      refine wp_astF (j := (22 + j)) dX7_michaelmas_79 ha (nI_add _ _) (by omega) ?_
      refine wp_iload_1 dX7_michaelmas_80 ?_
      refine wp_if_ne (tgt := 89) dX7_michaelmas_81 rfl (fun c81 => ?_) (fun c81 => ?_)
      · refine wp_iconst (v := 1) dX7_michaelmas_89 rfl ?_
        refine wp_goto (tgt := 94) dX7_michaelmas_90 rfl ?_
        refine wp_istore_1 dX7_michaelmas_94 (Nat.le_of_ble_eq_true rfl) rfl ?_
        refine wp_iinc_2 (v := nI (j + 1)) dX7_michaelmas_95 (nI_inc _) (Nat.le_of_ble_eq_true rfl) rfl ?_
        refine wp_goto (tgt := 4) dX7_michaelmas_98 rfl ?_
        have hh := ih (j + 1) (by omega)
        have e2 : (mch h (j + 1)).1 = mcF (mch h j).1 j := rfl
        rw [e2] at hh
        unfold mcF at hh
        refine wp_drop_3 ?_
        refine wp_drop_4 ?_
        refine wp_drop_5 ?_
        first
          | rw [cst_neg c34] at hh
          | rw [cst_pos c34] at hh
        first
          | (rw [show (mch h (j + 1)).2 = 1 from if_neg c81] at hh; exact hh)
          | (rw [show (mch h (j + 1)).2 = 0 from (if_pos c81).trans (if_pos c86)] at hh; exact hh)
          | (rw [show (mch h (j + 1)).2 = 1 from (if_pos c81).trans (if_neg c86)] at hh; exact hh)
      · refine wp_iload_4 dX7_michaelmas_84 ?_
        refine wp_if_eq (tgt := 93) dX7_michaelmas_86 rfl (fun c86 => ?_) (fun c86 => ?_)
        · refine wp_iconst (v := 0) dX7_michaelmas_93 rfl ?_
          refine wp_istore_1 dX7_michaelmas_94 (Nat.le_of_ble_eq_true rfl) rfl ?_
          refine wp_iinc_2 (v := nI (j + 1)) dX7_michaelmas_95 (nI_inc _) (Nat.le_of_ble_eq_true rfl) rfl ?_
          refine wp_goto (tgt := 4) dX7_michaelmas_98 rfl ?_
          have hh := ih (j + 1) (by omega)
          have e2 : (mch h (j + 1)).1 = mcF (mch h j).1 j := rfl
          rw [e2] at hh
          unfold mcF at hh
          refine wp_drop_3 ?_
          refine wp_drop_4 ?_
          refine wp_drop_5 ?_
          first
            | rw [cst_neg c34] at hh
            | rw [cst_pos c34] at hh
          first
            | (rw [show (mch h (j + 1)).2 = 1 from if_neg c81] at hh; exact hh)
            | (rw [show (mch h (j + 1)).2 = 0 from (if_pos c81).trans (if_pos c86)] at hh; exact hh)
            | (rw [show (mch h (j + 1)).2 = 1 from (if_pos c81).trans (if_neg c86)] at hh; exact hh)
        · refine wp_iconst (v := 1) dX7_michaelmas_89 rfl ?_
          refine wp_goto (tgt := 94) dX7_michaelmas_90 rfl ?_
          refine wp_istore_1 dX7_michaelmas_94 (Nat.le_of_ble_eq_true rfl) rfl ?_
          refine wp_iinc_2 (v := nI (j + 1)) dX7_michaelmas_95 (nI_inc _) (Nat.le_of_ble_eq_true rfl) rfl ?_
          refine wp_goto (tgt := 4) dX7_michaelmas_98 rfl ?_
          have hh := ih (j + 1) (by omega)
          have e2 : (mch h (j + 1)).1 = mcF (mch h j).1 j := rfl
          rw [e2] at hh
          unfold mcF at hh
          refine wp_drop_3 ?_
          refine wp_drop_4 ?_
          refine wp_drop_5 ?_
          first
            | rw [cst_neg c34] at hh
            | rw [cst_pos c34] at hh
          first
            | (rw [show (mch h (j + 1)).2 = 1 from if_neg c81] at hh; exact hh)
            | (rw [show (mch h (j + 1)).2 = 0 from (if_pos c81).trans (if_pos c86)] at hh; exact hh)
            | (rw [show (mch h (j + 1)).2 = 1 from (if_pos c81).trans (if_neg c86)] at hh; exact hh)
set_option maxRecDepth 100000 in
set_option maxHeartbeats 4000000 in
theorem c_X7_michaelmas {κ : KX} {M : MM} {Q : Option Value → va_W → Prop} {k : Nat} {h : Nat → Int32} {g : Nat} (ha : AR k 223) (hg : h 0 = nI g) (h6 : g ≤ 6) (hQ : Q (some (.int (mch h (g - 1)).2)) (wM κ (rI M k (mch h (g - 1)).1))) : CT κ (0, 0, 0) mX7_michaelmas [rv κ k] (wM κ (rI M k h)) Q := by
  refine CT.of okX7_michaelmas [some (rv κ k), none, none, none, none, none] (Nat.le_of_ble_eq_true rfl) rfl ?_
  refine wp_iconst (v := 0) dX7_michaelmas_0 rfl ?_
  refine wp_istore_1 dX7_michaelmas_1 (Nat.le_of_ble_eq_true rfl) rfl ?_
  refine wp_iconst (v := 0) dX7_michaelmas_2 rfl ?_
  refine wp_istore_2 dX7_michaelmas_3 (Nat.le_of_ble_eq_true rfl) rfl ?_
  refine l_X7_michaelmas ha hg h6 ?_ (g - 1) 0 (by omega)
  refine wp_iload_1 dX7_michaelmas_101 ?_
  refine wp_zret dX7_michaelmas_102 rfl (nar01 (mch_01 h (g - 1))) rfl ?_
  exact hQ
def gwF (h : Nat → Int32) : Nat → Nat → Int32
  | 0 => h
  | j + 1 => upd (gwF h j) (27 + j) (asQ (gwF h j (27 + j) + wkf (gwF h j) j))
theorem gwF_lo (h : Nat → Int32) {a : Nat} (ha : a < 27) : ∀ j, gwF h j a = h a
  | 0 => rfl
  | j + 1 => by
    rw [gwF]
    have e : a ≠ 27 + j := by omega
    simp [upd, e, gwF_lo h ha j]
def gw3 (h : Nat → Int32) (g : Nat) : Nat → Int32 := upd (gwF h (g - 1)) 3 (gwF h (g - 1) 3 + 1)
def rem (x y : Int32) : Int32 := x - x / y * y
def gosF (g : Nat) (h : Nat → Int32) : (Nat → Int32) × Int32 := if rem (gw3 h g 3) (gw3 h g 1) = 0 then mch (gw3 h g) (g - 1) else (gw3 h g, 0)
theorem gosF_01 (g : Nat) (h : Nat → Int32) : (gosF g h).2 = 0 ∨ (gosF g h).2 = 1 := by
  unfold gosF
  split
  · exact mch_01 _ _
  · exact Or.inl rfl
set_option maxRecDepth 100000 in
set_option maxHeartbeats 4000000 in
theorem l_X7_goes {κ : KX} {M : MM} {Q : Option Value → va_W → Prop} {k : Nat} {h : Nat → Int32} {g : Nat} (ha : AR k 223) (hg : h 0 = nI g) (h6 : g ≤ 6) (hx : WP κ (2, 0, 0) mX7_goes 38 [some (rv κ k), some (.int (nI ((g - 1))))] [] (wM κ (rI M k (gwF h ((g - 1))))) (0, 0) Q) : ∀ n j, j + n = (g - 1) → WP κ (2, 0, 0) mX7_goes 2 [some (rv κ k), some (.int (nI j))] [] (wM κ (rI M k (gwF h j))) (0, 0) Q := by
  intro n
  induction n with
  | zero =>
    intro j hn
    have hn : j = (g - 1) := hn
    refine wp_iload_1 dX7_goes_2 ?_
    refine wp_rload_0 dX7_goes_3 ?_
    refine wp_iconst (v := 0) dX7_goes_4 rfl ?_
    refine wp_aldF (j := 0) dX7_goes_5 ha (rfl) (by omega) ?_
    rw [gwF_lo h (by decide), hg]
    refine wp_iconst (v := 1) dX7_goes_6 rfl ?_
    refine wp_isub dX7_goes_7 ?_
    refine wp_icmp_ge (tgt := 38) dX7_goes_8 rfl (fun c8 => ?_) (fun c8 => absurd (gm1_le (by omega) (by omega) (by omega)) c8)
    subst hn
    exact hx
  | succ n ih =>
    intro j hn
    refine wp_iload_1 dX7_goes_2 ?_
    refine wp_rload_0 dX7_goes_3 ?_
    refine wp_iconst (v := 0) dX7_goes_4 rfl ?_
    refine wp_aldF (j := 0) dX7_goes_5 ha (rfl) (by omega) ?_
    rw [gwF_lo h (by decide), hg]
    refine wp_iconst (v := 1) dX7_goes_6 rfl ?_
    refine wp_isub dX7_goes_7 ?_
    refine wp_icmp_ge (tgt := 38) dX7_goes_8 rfl (fun c8 => absurd c8 (gm1_gt (by omega) (by omega))) (fun c8 => ?_)
    refine wp_rload_0 dX7_goes_11 ?_
    refine wp_bipush (v := 27) dX7_goes_12 rfl ?_
    refine wp_iload_1 dX7_goes_14 ?_
    refine wp_iadd dX7_goes_15 ?_
    refine wp_rload_0 dX7_goes_16 ?_
    refine wp_bipush (v := 27) dX7_goes_17 rfl ?_
    refine wp_iload_1 dX7_goes_19 ?_
    refine wp_iadd dX7_goes_20 ?_
    refine wp_aldF (j := (27 + j)) dX7_goes_21 ha (nI_add _ _) (by omega) ?_
    refine wp_rload_0 dX7_goes_22 ?_
    refine wp_iload_1 dX7_goes_23 ?_
    refine wp_callS_2 kX7_51 dX7_goes_24 (c_X7_grows ha (by omega) ?_) ⟨Nat.le_of_ble_eq_true rfl, Nat.le_of_ble_eq_true rfl, Nat.le_of_ble_eq_true rfl⟩ (Nat.le_of_ble_eq_true rfl)
    refine wp_iadd dX7_goes_27 ?_
    refine wp_callS_1 kX7_55 dX7_goes_28 (c_X7_bound ?_) ⟨Nat.le_of_ble_eq_true rfl, Nat.le_of_ble_eq_true rfl, Nat.le_of_ble_eq_true rfl⟩ (Nat.le_of_ble_eq_true rfl)
    refine wp_astF (j := (27 + j)) dX7_goes_31 ha (nI_add _ _) (by omega) ?_
    refine wp_iinc_1 (v := nI (j + 1)) dX7_goes_32 (nI_inc _) (Nat.le_of_ble_eq_true rfl) rfl ?_
    refine wp_goto (tgt := 2) dX7_goes_35 rfl ?_
    exact ih (j + 1) (by omega)
set_option maxRecDepth 100000 in
set_option maxHeartbeats 4000000 in
theorem c_X7_goes {κ : KX} {M : MM} {Q : Option Value → va_W → Prop} {k : Nat} {h : Nat → Int32} {g : Nat} (ha : AR k 223) (hg : h 0 = nI g) (h6 : g ≤ 6) (hy : 0 < h 1) (hQ : Q (some (.int (gosF g h).2)) (wM κ (rI M k (gosF g h).1))) : CT κ (2, 0, 0) mX7_goes [rv κ k] (wM κ (rI M k h)) Q := by
  refine CT.of okX7_goes [some (rv κ k), none] (Nat.le_of_ble_eq_true rfl) rfl ?_
  refine wp_iconst (v := 0) dX7_goes_0 rfl ?_
  refine wp_istore_1 dX7_goes_1 (Nat.le_of_ble_eq_true rfl) rfl ?_
  refine l_X7_goes ha hg h6 ?_ (g - 1) 0 (by omega)
  refine wp_rload_0 dX7_goes_38 ?_
  refine wp_iconst (v := 3) dX7_goes_39 rfl ?_
  refine wp_dup2_iv dX7_goes_40 ?_
  refine wp_aldF (j := 3) dX7_goes_41 ha (rfl) (by omega) ?_
  refine wp_iconst (v := 1) dX7_goes_42 rfl ?_
  refine wp_iadd dX7_goes_43 ?_
  refine wp_astF (j := 3) dX7_goes_44 ha (rfl) (by omega) ?_
  refine wp_rload_0 dX7_goes_45 ?_
  refine wp_iconst (v := 3) dX7_goes_46 rfl ?_
  refine wp_aldF (j := 3) dX7_goes_47 ha (rfl) (by omega) ?_
  refine wp_rload_0 dX7_goes_48 ?_
  refine wp_iconst (v := 1) dX7_goes_49 rfl ?_
  refine wp_aldF (j := 1) dX7_goes_50 ha (rfl) (by omega) ?_
  refine wp_irem dX7_goes_51 (gt_ne0 (show 0 < gw3 h g 1 from by rw [gw3]; simp only [upd]; rw [if_neg (by decide), gwF_lo h (by decide)]; exact hy)) ?_
  refine wp_if_ne (tgt := 66) dX7_goes_52 rfl (fun c52 => ?_) (fun c52 => ?_)
  · refine wp_iconst (v := 0) dX7_goes_66 rfl ?_
    refine wp_zret dX7_goes_67 rfl rfl rfl ?_
    first
      | (have e : gosF g h = (gw3 h g, 0) := if_neg c52
         rw [e] at hQ; exact hQ)
      | (have e : gosF g h = mch (gw3 h g) (g - 1) := if_pos c52
         rw [e] at hQ
         exact Qe hQ c59.symm rfl)
      | (have e : gosF g h = mch (gw3 h g) (g - 1) := if_pos c52
         rw [e] at hQ
         rcases mch_01 (gw3 h g) (g - 1) with hm | hm
         · exact absurd hm c59
         · exact Qe hQ hm.symm rfl)
  · refine wp_rload_0 dX7_goes_55 ?_
    refine wp_callS_1 kX7_59 dX7_goes_56 (c_X7_michaelmas (h := gw3 h g) (g := g) ha (by rw [gw3]; simp only [upd]; rw [if_neg (by decide), gwF_lo h (by decide)]; exact hg) h6 ?_) ⟨Nat.le_of_ble_eq_true rfl, Nat.le_of_ble_eq_true rfl, Nat.le_of_ble_eq_true rfl⟩ (Nat.le_of_ble_eq_true rfl)
    refine wp_if_eq (tgt := 66) dX7_goes_59 rfl (fun c59 => ?_) (fun c59 => ?_)
    · refine wp_iconst (v := 0) dX7_goes_66 rfl ?_
      refine wp_zret dX7_goes_67 rfl rfl rfl ?_
      first
        | (have e : gosF g h = (gw3 h g, 0) := if_neg c52
           rw [e] at hQ; exact hQ)
        | (have e : gosF g h = mch (gw3 h g) (g - 1) := if_pos c52
           rw [e] at hQ
           exact Qe hQ c59.symm rfl)
        | (have e : gosF g h = mch (gw3 h g) (g - 1) := if_pos c52
           rw [e] at hQ
           rcases mch_01 (gw3 h g) (g - 1) with hm | hm
           · exact absurd hm c59
           · exact Qe hQ hm.symm rfl)
    · refine wp_iconst (v := 1) dX7_goes_62 rfl ?_
      refine wp_goto (tgt := 67) dX7_goes_63 rfl ?_
      refine wp_zret dX7_goes_67 rfl rfl rfl ?_
      first
        | (have e : gosF g h = (gw3 h g, 0) := if_neg c52
           rw [e] at hQ; exact hQ)
        | (have e : gosF g h = mch (gw3 h g) (g - 1) := if_pos c52
           rw [e] at hQ
           exact Qe hQ c59.symm rfl)
        | (have e : gosF g h = mch (gw3 h g) (g - 1) := if_pos c52
           rw [e] at hQ
           rcases mch_01 (gw3 h g) (g - 1) with hm | hm
           · exact absurd hm c59
           · exact Qe hQ hm.symm rfl)
def smF (h : Nat → Int32) (a : Nat) : Nat → Int32
  | 0 => 0
  | j + 1 => smF h a j + h (a + j)
set_option maxRecDepth 100000 in
set_option maxHeartbeats 4000000 in
theorem l_X7_sumOf {κ : KX} {M : MM} {Q : Option Value → va_W → Prop} {k : Nat} {h : Nat → Int32} {a m : Nat} (ha : AR k 223) (hm : a + m ≤ 223) (hx : WP κ (0, 0, 0) mX7_sumOf 26 [some (rv κ k), some (.int (nI a)), some (.int (nI m)), some (.int (smF h a m)), some (.int (nI m))] [] (wM κ (rI M k (h))) (0, 0) Q) : ∀ n j, j + n = m → WP κ (0, 0, 0) mX7_sumOf 5 [some (rv κ k), some (.int (nI a)), some (.int (nI m)), some (.int (smF h a j)), some (.int (nI j))] [] (wM κ (rI M k (h))) (0, 0) Q := by
  intro n
  induction n with
  | zero =>
    intro j hn
    have hn : j = m := hn
    refine wp_iload_4 dX7_sumOf_5 ?_
    refine wp_iload_2 dX7_sumOf_7 ?_
    refine wp_icmp_ge (tgt := 26) dX7_sumOf_8 rfl (fun c8 => ?_) (fun c8 => absurd (nI_le (by omega) (by omega)) c8)
    subst hn
    exact hx
  | succ n ih =>
    intro j hn
    refine wp_iload_4 dX7_sumOf_5 ?_
    refine wp_iload_2 dX7_sumOf_7 ?_
    refine wp_icmp_ge (tgt := 26) dX7_sumOf_8 rfl (fun c8 => absurd c8 (nI_ge (by omega) (by omega))) (fun c8 => ?_)
    refine wp_iload_3 dX7_sumOf_11 ?_
    refine wp_rload_0 dX7_sumOf_12 ?_
    refine wp_iload_1 dX7_sumOf_13 ?_
    refine wp_iload_4 dX7_sumOf_14 ?_
    refine wp_iadd dX7_sumOf_16 ?_
    refine wp_aldF (j := (a + j)) dX7_sumOf_17 ha (nI_add _ _) (by omega) ?_
    refine wp_iadd dX7_sumOf_18 ?_
    refine wp_istore_3 dX7_sumOf_19 (Nat.le_of_ble_eq_true rfl) rfl ?_
    refine wp_iinc_4 (v := nI (j + 1)) dX7_sumOf_20 (nI_inc _) (Nat.le_of_ble_eq_true rfl) rfl ?_
    refine wp_goto (tgt := 5) dX7_sumOf_23 rfl ?_
    exact ih (j + 1) (by omega)
set_option maxRecDepth 100000 in
set_option maxHeartbeats 4000000 in
theorem c_X7_sumOf {κ : KX} {M : MM} {Q : Option Value → va_W → Prop} {k : Nat} {h : Nat → Int32} {a m : Nat} (ha : AR k 223) (hm : a + m ≤ 223) (hQ : Q (some (.int (smF h a m))) (wM κ (rI M k h))) : CT κ (0, 0, 0) mX7_sumOf [rv κ k, .int (nI a), .int (nI m)] (wM κ (rI M k h)) Q := by
  refine CT.of okX7_sumOf [some (rv κ k), some (.int (nI a)), some (.int (nI m)), none, none] (Nat.le_of_ble_eq_true rfl) rfl ?_
  refine wp_iconst (v := 0) dX7_sumOf_0 rfl ?_
  refine wp_istore_3 dX7_sumOf_1 (Nat.le_of_ble_eq_true rfl) rfl ?_
  refine wp_iconst (v := 0) dX7_sumOf_2 rfl ?_
  refine wp_istore_4 dX7_sumOf_3 (Nat.le_of_ble_eq_true rfl) rfl ?_
  refine l_X7_sumOf ha hm ?_ m 0 (by omega)
  refine wp_iload_3 dX7_sumOf_26 ?_
  refine wp_iret dX7_sumOf_27 rfl rfl ?_
  exact hQ
set_option maxRecDepth 100000 in
set_option maxHeartbeats 4000000 in
theorem c_X7_coursesOf {κ : KX} {M : MM} {Q : Option Value → va_W → Prop} {k : Nat} {h : Nat → Int32}  (ha : AR k 223)  (hQ : Q (some (.int (smF h 22 5))) (wM κ (rI M k h))) : CT κ (1, 0, 0) mX7_coursesOf [rv κ k] (wM κ (rI M k h)) Q := by
  refine CT.of okX7_coursesOf [some (rv κ k)] (Nat.le_of_ble_eq_true rfl) rfl ?_
  refine wp_rload_0 dX7_coursesOf_0 ?_
  refine wp_bipush (v := 22) dX7_coursesOf_1 rfl ?_
  refine wp_iconst (v := 5) dX7_coursesOf_3 rfl ?_
  refine wp_callS_3 kX7_63 dX7_coursesOf_4 (c_X7_sumOf (a := 22) (m := 5) ha (by decide) ?_) ⟨Nat.le_of_ble_eq_true rfl, Nat.le_of_ble_eq_true rfl, Nat.le_of_ble_eq_true rfl⟩ (Nat.le_of_ble_eq_true rfl)
  refine wp_iret dX7_coursesOf_7 rfl rfl ?_
  exact hQ
def sy0 (h : Nat → Int32) (w : Nat) : Nat → Int32 := upd h (27 + w) (h (27 + w) - h (27 + w) / 3)
set_option maxRecDepth 100000 in
set_option maxHeartbeats 4000000 in
theorem c_X7_sorries0 {κ : KX} {M : MM} {Q : Option Value → va_W → Prop} {k : Nat} {h : Nat → Int32} {w : Nat} (ha : AR k 223) (hw : w < 5) (hQ : Q (none) (wM κ (rI M k (sy0 h w)))) : CT κ (0, 0, 0) mX7_sorries0 [rv κ k, .int (nI w)] (wM κ (rI M k h)) Q := by
  refine CT.of okX7_sorries0 [some (rv κ k), some (.int (nI w))] (Nat.le_of_ble_eq_true rfl) rfl ?_
  refine wp_rload_0 dX7_sorries0_0 ?_
  refine wp_bipush (v := 27) dX7_sorries0_1 rfl ?_
  refine wp_iload_1 dX7_sorries0_3 ?_
  refine wp_iadd dX7_sorries0_4 ?_
  refine wp_dup2_iv dX7_sorries0_5 ?_
  refine wp_aldF (j := (27 + w)) dX7_sorries0_6 ha (nI_add _ _) (by omega) ?_
  refine wp_rload_0 dX7_sorries0_7 ?_
  refine wp_bipush (v := 27) dX7_sorries0_8 rfl ?_
  refine wp_iload_1 dX7_sorries0_10 ?_
  refine wp_iadd dX7_sorries0_11 ?_
  refine wp_aldF (j := (27 + w)) dX7_sorries0_12 ha (nI_add _ _) (by omega) ?_
  refine wp_iconst (v := 3) dX7_sorries0_13 rfl ?_
  refine wp_idiv dX7_sorries0_14 (by decide) ?_
  refine wp_isub dX7_sorries0_15 ?_
  refine wp_astF (j := (27 + w)) dX7_sorries0_16 ha (nI_add _ _) (by omega) ?_
  refine wp_vret dX7_sorries0_17 rfl rfl ?_
  exact hQ
def cpS (h : Nat → Int32) (a b : Nat) : Nat → Nat → Int32
  | 0 => h
  | j + 1 => upd (cpS h a b j) (b + j) (cpS h a b j (a + j))
def cpD (f h : Nat → Int32) (a b : Nat) : Nat → Nat → Int32
  | 0 => h
  | j + 1 => upd (cpD f h a b j) (b + j) (f (a + j))
set_option maxRecDepth 100000 in
set_option maxHeartbeats 4000000 in
theorem l_X7_copiesS {κ : KX} {M : MM} {Q : Option Value → va_W → Prop} {k : Nat} {h : Nat → Int32} {a b m : Nat} (ha : AR k 223) (h1 : a + m ≤ 223) (h2 : b + m ≤ 223) (hx : WP κ (0, 0, 0) mX7_copies 28 [some (rv κ k), some (.int (nI a)), some (rv κ k), some (.int (nI b)), some (.int (nI m)), some (.int (nI m))] [] (wM κ (rI M k (cpS h a b m))) (0, 0) Q) : ∀ n j, j + n = m → WP κ (0, 0, 0) mX7_copies 3 [some (rv κ k), some (.int (nI a)), some (rv κ k), some (.int (nI b)), some (.int (nI m)), some (.int (nI j))] [] (wM κ (rI M k (cpS h a b j))) (0, 0) Q := by
  intro n
  induction n with
  | zero =>
    intro j hn
    have hn : j = m := hn
    refine wp_iload_5 dX7_copies_3 ?_
    refine wp_iload_4 dX7_copies_5 ?_
    refine wp_icmp_ge (tgt := 28) dX7_copies_7 rfl (fun c7 => ?_) (fun c7 => absurd (nI_le (by omega) (by omega)) c7)
    subst hn
    exact hx
  | succ n ih =>
    intro j hn
    refine wp_iload_5 dX7_copies_3 ?_
    refine wp_iload_4 dX7_copies_5 ?_
    refine wp_icmp_ge (tgt := 28) dX7_copies_7 rfl (fun c7 => absurd c7 (nI_ge (by omega) (by omega))) (fun c7 => ?_)
    refine wp_rload_2 dX7_copies_10 ?_
    refine wp_iload_3 dX7_copies_11 ?_
    refine wp_iload_5 dX7_copies_12 ?_
    refine wp_iadd dX7_copies_14 ?_
    refine wp_rload_0 dX7_copies_15 ?_
    refine wp_iload_1 dX7_copies_16 ?_
    refine wp_iload_5 dX7_copies_17 ?_
    refine wp_iadd dX7_copies_19 ?_
    refine wp_aldF (j := (a + j)) dX7_copies_20 ha (nI_add _ _) (by omega) ?_
    refine wp_astF (j := (b + j)) dX7_copies_21 ha (nI_add _ _) (by omega) ?_
    refine wp_iinc_5 (v := nI (j + 1)) dX7_copies_22 (nI_inc _) (Nat.le_of_ble_eq_true rfl) rfl ?_
    refine wp_goto (tgt := 3) dX7_copies_25 rfl ?_
    exact ih (j + 1) (by omega)
set_option maxRecDepth 100000 in
set_option maxHeartbeats 4000000 in
theorem c_X7_copiesS {κ : KX} {M : MM} {Q : Option Value → va_W → Prop} {k : Nat} {h : Nat → Int32} {a b m : Nat} (ha : AR k 223) (h1 : a + m ≤ 223) (h2 : b + m ≤ 223) (hQ : Q (none) (wM κ (rI M k (cpS h a b m)))) : CT κ (0, 0, 0) mX7_copies [rv κ k, .int (nI a), rv κ k, .int (nI b), .int (nI m)] (wM κ (rI M k h)) Q := by
  refine CT.of okX7_copies [some (rv κ k), some (.int (nI a)), some (rv κ k), some (.int (nI b)), some (.int (nI m)), none] (Nat.le_of_ble_eq_true rfl) rfl ?_
  refine wp_iconst (v := 0) dX7_copies_0 rfl ?_
  refine wp_istore_5 dX7_copies_1 (Nat.le_of_ble_eq_true rfl) rfl ?_
  refine l_X7_copiesS ha h1 h2 ?_ m 0 (by omega)
  refine wp_vret dX7_copies_28 rfl rfl ?_
  exact hQ
set_option maxRecDepth 100000 in
set_option maxHeartbeats 4000000 in
theorem l_X7_copiesD {κ : KX} {M : MM} {Q : Option Value → va_W → Prop} {k q : Nat} {h : Nat → Int32} {a b m : Nat} (ha : AR k 223) (hq : AR q 223) (hkq : q ≠ k) (h1 : a + m ≤ 223) (h2 : b + m ≤ 223) (hx : WP κ (0, 0, 0) mX7_copies 28 [some (rv κ q), some (.int (nI a)), some (rv κ k), some (.int (nI b)), some (.int (nI m)), some (.int (nI m))] [] (wM κ (rI M k (cpD (M.1 q) h a b m))) (0, 0) Q) : ∀ n j, j + n = m → WP κ (0, 0, 0) mX7_copies 3 [some (rv κ q), some (.int (nI a)), some (rv κ k), some (.int (nI b)), some (.int (nI m)), some (.int (nI j))] [] (wM κ (rI M k (cpD (M.1 q) h a b j))) (0, 0) Q := by
  intro n
  induction n with
  | zero =>
    intro j hn
    have hn : j = m := hn
    refine wp_iload_5 dX7_copies_3 ?_
    refine wp_iload_4 dX7_copies_5 ?_
    refine wp_icmp_ge (tgt := 28) dX7_copies_7 rfl (fun c7 => ?_) (fun c7 => absurd (nI_le (by omega) (by omega)) c7)
    subst hn
    exact hx
  | succ n ih =>
    intro j hn
    refine wp_iload_5 dX7_copies_3 ?_
    refine wp_iload_4 dX7_copies_5 ?_
    refine wp_icmp_ge (tgt := 28) dX7_copies_7 rfl (fun c7 => absurd c7 (nI_ge (by omega) (by omega))) (fun c7 => ?_)
    refine wp_rload_2 dX7_copies_10 ?_
    refine wp_iload_3 dX7_copies_11 ?_
    refine wp_iload_5 dX7_copies_12 ?_
    refine wp_iadd dX7_copies_14 ?_
    refine wp_rload_0 dX7_copies_15 ?_
    refine wp_iload_1 dX7_copies_16 ?_
    refine wp_iload_5 dX7_copies_17 ?_
    refine wp_iadd dX7_copies_19 ?_
    refine wp_ald (j := (a + j)) dX7_copies_20 hq (nI_add _ _) (by omega) ?_
    rw [rI_ne M _ hkq]
    refine wp_astF (j := (b + j)) dX7_copies_21 ha (nI_add _ _) (by omega) ?_
    refine wp_iinc_5 (v := nI (j + 1)) dX7_copies_22 (nI_inc _) (Nat.le_of_ble_eq_true rfl) rfl ?_
    refine wp_goto (tgt := 3) dX7_copies_25 rfl ?_
    exact ih (j + 1) (by omega)
set_option maxRecDepth 100000 in
set_option maxHeartbeats 4000000 in
theorem c_X7_copiesD {κ : KX} {M : MM} {Q : Option Value → va_W → Prop} {k q : Nat} {h : Nat → Int32} {a b m : Nat} (ha : AR k 223) (hq : AR q 223) (hkq : q ≠ k) (h1 : a + m ≤ 223) (h2 : b + m ≤ 223) (hQ : Q (none) (wM κ (rI M k (cpD (M.1 q) h a b m)))) : CT κ (0, 0, 0) mX7_copies [rv κ q, .int (nI a), rv κ k, .int (nI b), .int (nI m)] (wM κ (rI M k h)) Q := by
  refine CT.of okX7_copies [some (rv κ q), some (.int (nI a)), some (rv κ k), some (.int (nI b)), some (.int (nI m)), none] (Nat.le_of_ble_eq_true rfl) rfl ?_
  refine wp_iconst (v := 0) dX7_copies_0 rfl ?_
  refine wp_istore_5 dX7_copies_1 (Nat.le_of_ble_eq_true rfl) rfl ?_
  refine l_X7_copiesD ha hq hkq h1 h2 ?_ m 0 (by omega)
  refine wp_vret dX7_copies_28 rfl rfl ?_
  exact hQ
def bgn (h : Nat → Int32) : Nat → Nat → Int32
  | 0 => h
  | j + 1 => upd (bgn h j) j (if wi (nI j) 32 36 = 0 then 0 else -99)
def bgF (h : Nat → Int32) (y e d : Int32) : Nat → Int32 := upd (upd (upd (bgn h 223) 1 y) 2 e) 37 d
set_option maxRecDepth 100000 in
set_option maxHeartbeats 4000000 in
theorem l_X7_begins {κ : KX} {M : MM} {Q : Option Value → va_W → Prop} {k : Nat} {h : Nat → Int32} {y e d : Int32} (ha : AR k 223)  (hx : WP κ (1, 0, 0) mX7_begins 42 [some (rv κ k), some (.int y), some (.int e), some (.int d), some (.int (nI 223))] [] (wM κ (rI M k (bgn h 223))) (0, 0) Q) : ∀ n j, j + n = 223 → WP κ (1, 0, 0) mX7_begins 3 [some (rv κ k), some (.int y), some (.int e), some (.int d), some (.int (nI j))] [] (wM κ (rI M k (bgn h j))) (0, 0) Q := by
  intro n
  induction n with
  | zero =>
    intro j hn
    have hn : j = 223 := hn
    refine wp_iload_4 dX7_begins_3 ?_
    refine wp_sipush (v := 223) dX7_begins_5 rfl ?_
    refine wp_icmp_ge (tgt := 42) dX7_begins_8 rfl (fun c8 => ?_) (fun c8 => absurd (nI_le (a := 223) (by omega) (by omega)) c8)
    subst hn
    exact hx
  | succ n ih =>
    intro j hn
    refine wp_iload_4 dX7_begins_3 ?_
    refine wp_sipush (v := 223) dX7_begins_5 rfl ?_
    refine wp_icmp_ge (tgt := 42) dX7_begins_8 rfl (fun c8 => absurd c8 (nI_ge (b := 223) (by omega) (by omega))) (fun c8 => ?_)
    refine wp_rload_0 dX7_begins_11 ?_
    refine wp_iload_4 dX7_begins_12 ?_
    refine wp_iload_4 dX7_begins_14 ?_
    refine wp_i2l dX7_begins_16 ?_
    refine wp_ldc2 nX7_39 dX7_begins_17 ?_
    refine wp_ldc2 nX7_41 dX7_begins_20 ?_
    refine wp_callS_3 kX7_43 dX7_begins_23 (c_X7_in (lo := 32) (hi := 36) (by decide) (by decide) ?_) ⟨Nat.le_of_ble_eq_true rfl, Nat.le_of_ble_eq_true rfl, Nat.le_of_ble_eq_true rfl⟩ (Nat.le_of_ble_eq_true rfl)
    refine wp_if_eq (tgt := 34) dX7_begins_26 rfl (fun c26 => ?_) (fun c26 => ?_)
    · refine wp_iconst (v := 0) dX7_begins_34 rfl ?_
      refine wp_astF (j := j) dX7_begins_35 ha (rfl) (by omega) ?_
      refine wp_iinc_4 (v := nI (j + 1)) dX7_begins_36 (nI_inc _) (Nat.le_of_ble_eq_true rfl) rfl ?_
      refine wp_goto (tgt := 3) dX7_begins_39 rfl ?_
      have hh := ih (j + 1) (by omega)
      first
        | (rw [show bgn h (j + 1) = upd (bgn h j) j 0 from congrArg (upd (bgn h j) j) (if_pos c26)] at hh; exact hh)
        | (rw [show bgn h (j + 1) = upd (bgn h j) j (-99) from congrArg (upd (bgn h j) j) (if_neg c26)] at hh; exact hh)
    · refine wp_bipush (v := (-99)) dX7_begins_29 rfl ?_
      refine wp_goto (tgt := 35) dX7_begins_31 rfl ?_
      refine wp_astF (j := j) dX7_begins_35 ha (rfl) (by omega) ?_
      refine wp_iinc_4 (v := nI (j + 1)) dX7_begins_36 (nI_inc _) (Nat.le_of_ble_eq_true rfl) rfl ?_
      refine wp_goto (tgt := 3) dX7_begins_39 rfl ?_
      have hh := ih (j + 1) (by omega)
      first
        | (rw [show bgn h (j + 1) = upd (bgn h j) j 0 from congrArg (upd (bgn h j) j) (if_pos c26)] at hh; exact hh)
        | (rw [show bgn h (j + 1) = upd (bgn h j) j (-99) from congrArg (upd (bgn h j) j) (if_neg c26)] at hh; exact hh)
set_option maxRecDepth 100000 in
set_option maxHeartbeats 4000000 in
theorem c_X7_begins {κ : KX} {M : MM} {Q : Option Value → va_W → Prop} {k : Nat} {h : Nat → Int32} {y e d : Int32} (ha : AR k 223)  (hQ : Q (none) (wM κ (rI M k (bgF h y e d)))) : CT κ (1, 0, 0) mX7_begins [rv κ k, .int y, .int e, .int d] (wM κ (rI M k h)) Q := by
  refine CT.of okX7_begins [some (rv κ k), some (.int y), some (.int e), some (.int d), none] (Nat.le_of_ble_eq_true rfl) rfl ?_
  refine wp_iconst (v := 0) dX7_begins_0 rfl ?_
  refine wp_istore_4 dX7_begins_1 (Nat.le_of_ble_eq_true rfl) rfl ?_
  refine l_X7_begins ha ?_ 223 0 (by omega)
  refine wp_rload_0 dX7_begins_42 ?_
  refine wp_iconst (v := 1) dX7_begins_43 rfl ?_
  refine wp_iload_1 dX7_begins_44 ?_
  refine wp_astF (j := 1) dX7_begins_45 ha (rfl) (by omega) ?_
  refine wp_rload_0 dX7_begins_46 ?_
  refine wp_iconst (v := 2) dX7_begins_47 rfl ?_
  refine wp_iload_2 dX7_begins_48 ?_
  refine wp_astF (j := 2) dX7_begins_49 ha (rfl) (by omega) ?_
  refine wp_rload_0 dX7_begins_50 ?_
  refine wp_bipush (v := 37) dX7_begins_51 rfl ?_
  refine wp_iload_3 dX7_begins_53 ?_
  refine wp_astF (j := 37) dX7_begins_54 ha (rfl) (by omega) ?_
  refine wp_vret dX7_begins_55 rfl rfl ?_
  exact hQ
