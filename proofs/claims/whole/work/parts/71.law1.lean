/-! THE LAW: its own judgement knows the script too -/
def WL (Z : State → Prop) (κ : KX) (r : RM) (y : MD) (pc : Nat) (L : List (Option Value)) (st : List Value) (w : va_W) (ct : Nat × Nat) (Q : Option Value → va_W → Prop) : Prop :=
  ∀ (p : Program) (e : Env) (R : Room) (s : State) (m : MethodId) (args : Array Value) (below : List Frame) (meth : Method) (c : Code) (H : Heap) (locs : List Loc) (ls : Array Slot),
    Cx κ r y p R s m args meth c → lvL ls y.2.2.1 L → HW κ w H → va_S (kA κ) s.heap H locs → Z s →
    W p κ.1 e R s m args below meth c H locs ct.1 ct.2 (MQ below (QW κ Q) args s r.2.1 r.2.2 (kA κ)) (F0 m pc ls st)
def ZS (b N : Nat) (xs : Nat → Int32) (s : State) : Prop := va_X b N xs s s.heap ∧ b < s.heap.size
section WLR
variable {Z : State → Prop} {κ : KX} {r r' : RM} {y y' : MD} {pc n : Nat} {L : List (Option Value)} {st : List Value} {w w0 l : va_W} {M : MM} {ct : Nat × Nat} {Q : Option Value → va_W → Prop}
theorem wl_iconst {i : Int} {v : Int32} (d : St y pc (.iconst i) 1 n) (hv : Int32.ofInt i = v) (k : WL Z κ r y n L (.int v :: st) w ct Q) : WL Z κ r y pc L (st) w ct Q := by
  obtain ⟨hd, rfl⟩ := d
  intro p e R s m args below meth c H locs ls C hl hH hS hZ
  exact lv_iconst C.1 C.2.1 hd hv (k p e R s m args below meth c H locs ls C hl hH hS hZ)
theorem wl_bipush {i : Int} {v : Int32} (d : St y pc (.bipush i) 2 n) (hv : (Int8.ofInt i).toInt32 = v) (k : WL Z κ r y n L (.int v :: st) w ct Q) : WL Z κ r y pc L (st) w ct Q := by
  obtain ⟨hd, rfl⟩ := d
  intro p e R s m args below meth c H locs ls C hl hH hS hZ
  exact lv_bipush C.1 C.2.1 hd hv (k p e R s m args below meth c H locs ls C hl hH hS hZ)
theorem wl_iadd {x z : Int32} (d : St y pc (.iadd) 1 n) (k : WL Z κ r y n L (.int (x + z) :: st) w ct Q) : WL Z κ r y pc L (.int z :: .int x :: st) w ct Q := by
  obtain ⟨hd, rfl⟩ := d
  intro p e R s m args below meth c H locs ls C hl hH hS hZ
  exact lv_iadd C.1 C.2.1 hd (k p e R s m args below meth c H locs ls C hl hH hS hZ)
theorem wl_isub {x z : Int32} (d : St y pc (.isub) 1 n) (k : WL Z κ r y n L (.int (x - z) :: st) w ct Q) : WL Z κ r y pc L (.int z :: .int x :: st) w ct Q := by
  obtain ⟨hd, rfl⟩ := d
  intro p e R s m args below meth c H locs ls C hl hH hS hZ
  exact lv_isub C.1 C.2.1 hd (k p e R s m args below meth c H locs ls C hl hH hS hZ)
theorem wl_iand {x z : Int32} (d : St y pc (.iand) 1 n) (k : WL Z κ r y n L (.int (x &&& z) :: st) w ct Q) : WL Z κ r y pc L (.int z :: .int x :: st) w ct Q := by
  obtain ⟨hd, rfl⟩ := d
  intro p e R s m args below meth c H locs ls C hl hH hS hZ
  exact lv_iand C.1 C.2.1 hd (k p e R s m args below meth c H locs ls C hl hH hS hZ)
theorem wl_land {x z : Int64} (d : St y pc (.land) 1 n) (k : WL Z κ r y n L (.long (x &&& z) :: st) w ct Q) : WL Z κ r y pc L (.long z :: .long x :: st) w ct Q := by
  obtain ⟨hd, rfl⟩ := d
  intro p e R s m args below meth c H locs ls C hl hH hS hZ
  exact lv_land C.1 C.2.1 hd (k p e R s m args below meth c H locs ls C hl hH hS hZ)
theorem wl_lor {x z : Int64} (d : St y pc (.lor) 1 n) (k : WL Z κ r y n L (.long (x ||| z) :: st) w ct Q) : WL Z κ r y pc L (.long z :: .long x :: st) w ct Q := by
  obtain ⟨hd, rfl⟩ := d
  intro p e R s m args below meth c H locs ls C hl hH hS hZ
  exact lv_lor C.1 C.2.1 hd (k p e R s m args below meth c H locs ls C hl hH hS hZ)
theorem wl_lshl {x : Int64} {z : Int32} (d : St y pc (.lshl) 1 n) (k : WL Z κ r y n L (.long (x <<< (z.toInt64 &&& 63)) :: st) w ct Q) : WL Z κ r y pc L (.int z :: .long x :: st) w ct Q := by
  obtain ⟨hd, rfl⟩ := d
  intro p e R s m args below meth c H locs ls C hl hH hS hZ
  exact lv_lshl C.1 C.2.1 hd rfl (k p e R s m args below meth c H locs ls C hl hH hS hZ)
theorem wl_i2l {x : Int32} (d : St y pc (.i2l) 1 n) (k : WL Z κ r y n L (.long x.toInt64 :: st) w ct Q) : WL Z κ r y pc L (.int x :: st) w ct Q := by
  obtain ⟨hd, rfl⟩ := d
  intro p e R s m args below meth c H locs ls C hl hH hS hZ
  exact lv_i2l C.1 C.2.1 hd rfl (k p e R s m args below meth c H locs ls C hl hH hS hZ)
theorem wl_ldc2 {i : Nat} {v : Int64} (f : Cond.constantLong y.1.cls i v ∈ TB) (d : St y pc (.ldc2_w i) 3 n) (k : WL Z κ r y n L (.long v :: st) w ct Q) : WL Z κ r y pc L st w ct Q := by
  obtain ⟨hd, rfl⟩ := d
  intro p e R s m args below meth c H locs ls C hl hH hS hZ
  exact lv_ldc2 C.1 C.2.1 C.2.2.2.1 (C.2.2.2.2.1 _ f) hd (k p e R s m args below meth c H locs ls C hl hH hS hZ)
theorem wl_dup_ref {x : Nat} (d : St y pc (.dup) 1 n) (k : WL Z κ r y n L (.ref x :: .ref x :: st) w ct Q) : WL Z κ r y pc L (.ref x :: st) w ct Q := by
  obtain ⟨hd, rfl⟩ := d
  intro p e R s m args below meth c H locs ls C hl hH hS hZ
  exact lv_dup C.1 C.2.1 hd rfl (k p e R s m args below meth c H locs ls C hl hH hS hZ)
theorem wl_icmp_eq {x z : Int32} {off : Int} {tgt : Nat} (d : St y pc (.if_icmp .eq off) 3 n) (ht : (pc : Int) + off = (tgt : Int)) (kt : x = z → WL Z κ r y tgt L st w ct Q) (kf : ¬ x = z → WL Z κ r y n L st w ct Q) : WL Z κ r y pc L (.int z :: .int x :: st) w ct Q := by
  obtain ⟨hd, rfl⟩ := d
  intro p e R s m args below meth c H locs ls C hl hH hS hZ
  exact lv_icmp_eq C.1 C.2.1 hd ht (fun q => kt q p e R s m args below meth c H locs ls C hl hH hS hZ) (fun q => kf q p e R s m args below meth c H locs ls C hl hH hS hZ)
theorem wl_icmp_gt {x z : Int32} {off : Int} {tgt : Nat} (d : St y pc (.if_icmp .gt off) 3 n) (ht : (pc : Int) + off = (tgt : Int)) (kt : z < x → WL Z κ r y tgt L st w ct Q) (kf : ¬ z < x → WL Z κ r y n L st w ct Q) : WL Z κ r y pc L (.int z :: .int x :: st) w ct Q := by
  obtain ⟨hd, rfl⟩ := d
  intro p e R s m args below meth c H locs ls C hl hH hS hZ
  exact lv_icmp_gt C.1 C.2.1 hd ht (fun q => kt q p e R s m args below meth c H locs ls C hl hH hS hZ) (fun q => kf q p e R s m args below meth c H locs ls C hl hH hS hZ)
theorem wl_goto {off : Int} {tgt : Nat} (d : St y pc (.goto off) 3 n) (ht : (pc : Int) + off = (tgt : Int)) (k : WL Z κ r y tgt L st w ct Q) : WL Z κ r y pc L st w ct Q := by
  obtain ⟨hd, rfl⟩ := d
  intro p e R s m args below meth c H locs ls C hl hH hS hZ
  exact lv_goto C.1 C.2.1 hd ht (k p e R s m args below meth c H locs ls C hl hH hS hZ)
theorem wl_aload_0 {x : Nat} (d : St y pc (.aload_n 0) 1 n) (k : WL Z κ r y n (some (.ref x) :: L) (.ref x :: st) w ct Q) : WL Z κ r y pc (some (.ref x) :: L) st w ct Q := by
  obtain ⟨hd, rfl⟩ := d
  intro p e R s m args below meth c H locs ls C hl hH hS hZ
  exact lv_aload_n C.1 C.2.1 hd rfl (lvL_at hl (i := 0) rfl) (k p e R s m args below meth c H locs ls C hl hH hS hZ)
theorem wl_aload_1 {x : Nat} {o0 : Option Value} (d : St y pc (.aload_n 1) 1 n) (k : WL Z κ r y n (o0 :: some (.ref x) :: L) (.ref x :: st) w ct Q) : WL Z κ r y pc (o0 :: some (.ref x) :: L) st w ct Q := by
  obtain ⟨hd, rfl⟩ := d
  intro p e R s m args below meth c H locs ls C hl hH hS hZ
  exact lv_aload_n C.1 C.2.1 hd rfl (lvL_at hl (i := 1) rfl) (k p e R s m args below meth c H locs ls C hl hH hS hZ)
theorem wl_aload_2 {x : Nat} {o0 : Option Value} {o1 : Option Value} (d : St y pc (.aload_n 2) 1 n) (k : WL Z κ r y n (o0 :: o1 :: some (.ref x) :: L) (.ref x :: st) w ct Q) : WL Z κ r y pc (o0 :: o1 :: some (.ref x) :: L) st w ct Q := by
  obtain ⟨hd, rfl⟩ := d
  intro p e R s m args below meth c H locs ls C hl hH hS hZ
  exact lv_aload_n C.1 C.2.1 hd rfl (lvL_at hl (i := 2) rfl) (k p e R s m args below meth c H locs ls C hl hH hS hZ)
theorem wl_iload_3 {x : Int32} {o0 : Option Value} {o1 : Option Value} {o2 : Option Value} (d : St y pc (.iload_n 3) 1 n) (k : WL Z κ r y n (o0 :: o1 :: o2 :: some (.int x) :: L) (.int x :: st) w ct Q) : WL Z κ r y pc (o0 :: o1 :: o2 :: some (.int x) :: L) st w ct Q := by
  obtain ⟨hd, rfl⟩ := d
  intro p e R s m args below meth c H locs ls C hl hH hS hZ
  exact lv_iload_n C.1 C.2.1 hd rfl (lvL_at hl (i := 3) rfl) (k p e R s m args below meth c H locs ls C hl hH hS hZ)
theorem wl_istore_3 {x : Int32} {oo : Option Value} {o0 : Option Value} {o1 : Option Value} {o2 : Option Value} (d : St y pc (.istore_n 3) 1 n) (hi : 3 < y.2.2.1) (hc : lcat o2 = true) (k : WL Z κ r y n (o0 :: o1 :: o2 :: some (.int x) :: L) st w ct Q) : WL Z κ r y pc (o0 :: o1 :: o2 :: oo :: L) (.int x :: st) w ct Q := by
  obtain ⟨hd, rfl⟩ := d
  intro p e R s m args below meth c H locs ls C hl hH hS hZ
  exact lv_istore_n (i := 3) C.1 C.2.1 hd rfl hl hi rfl (fun ls' hl' => k p e R s m args below meth c H locs ls' C (lvL_set (L := o0 :: o1 :: o2 :: oo :: L) (i := 3) hl' (fun u h1 h2 => lcat_of hc (by simpa using h2)) (by simp)) hH hS hZ)
theorem wl_astore_1 {x : Nat} {oo : Option Value} {o0 : Option Value} (d : St y pc (.astore_n 1) 1 n) (hi : 1 < y.2.2.1) (hc : lcat o0 = true) (k : WL Z κ r y n (o0 :: some (.ref x) :: L) st w ct Q) : WL Z κ r y pc (o0 :: oo :: L) (.ref x :: st) w ct Q := by
  obtain ⟨hd, rfl⟩ := d
  intro p e R s m args below meth c H locs ls C hl hH hS hZ
  exact lv_astore_n (i := 1) C.1 C.2.1 hd rfl hl hi rfl (fun ls' hl' => k p e R s m args below meth c H locs ls' C (lvL_set (L := o0 :: oo :: L) (i := 1) hl' (fun u h1 h2 => lcat_of hc (by simpa using h2)) (by simp)) hH hS hZ)
theorem wl_astore_2 {x : Nat} {oo : Option Value} {o0 : Option Value} {o1 : Option Value} (d : St y pc (.astore_n 2) 1 n) (hi : 2 < y.2.2.1) (hc : lcat o1 = true) (k : WL Z κ r y n (o0 :: o1 :: some (.ref x) :: L) st w ct Q) : WL Z κ r y pc (o0 :: o1 :: oo :: L) (.ref x :: st) w ct Q := by
  obtain ⟨hd, rfl⟩ := d
  intro p e R s m args below meth c H locs ls C hl hH hS hZ
  exact lv_astore_n (i := 2) C.1 C.2.1 hd rfl hl hi rfl (fun ls' hl' => k p e R s m args below meth c H locs ls' C (lvL_set (L := o0 :: o1 :: oo :: L) (i := 2) hl' (fun u h1 h2 => lcat_of hc (by simpa using h2)) (by simp)) hH hS hZ)
theorem wl_iinc_3 {x v : Int32} {j : Int} {o0 : Option Value} {o1 : Option Value} {o2 : Option Value} (d : St y pc (.iinc 3 j) 3 n) (hv : x + Int32.ofInt j = v) (hi : 3 < y.2.2.1) (hc : lcat o2 = true) (k : WL Z κ r y n (o0 :: o1 :: o2 :: some (.int v) :: L) st w ct Q) : WL Z κ r y pc (o0 :: o1 :: o2 :: some (.int x) :: L) st w ct Q := by
  obtain ⟨hd, rfl⟩ := d
  intro p e R s m args below meth c H locs ls C hl hH hS hZ
  obtain ⟨q, hq⟩ := List.getElem?_of_mem (lvA_mem (L := o0 :: o1 :: o2 :: some (.int x) :: L) (i := 3) (v := .int x) rfl)
  exact lv_iinc (i := 3) (k := q) C.1 C.2.1 hd hl hq hv hi rfl (fun ls' hl' => k p e R s m args below meth c H locs ls' C (lvL_set (L := o0 :: o1 :: o2 :: some (.int x) :: L) (i := 3) hl' (fun u h1 h2 => lcat_of hc (by simpa using h2)) (by simp)) hH hS hZ)
theorem wl_switch {dflt lo hi : Int} {offs : Array Int} {len : Nat} {x : Int32} (d : St y pc (.tableswitch dflt lo hi offs) len n) (tgt : Nat) (ht : (pc : Int) + (if x.toInt < lo ∨ hi < x.toInt then dflt else offs.getD (x.toInt - lo).toNat 0) = (tgt : Int)) (hlo : ¬ (x.toInt < lo ∨ hi < x.toInt) → (x.toInt - lo).toNat < offs.size) (k : WL Z κ r y tgt L st w ct Q) : WL Z κ r y pc L (.int x :: st) w ct Q := by
  obtain ⟨hd, -⟩ := d
  intro p e R s m args below meth c H locs ls C hl hH hS hZ
  by_cases h : x.toInt < lo ∨ hi < x.toInt
  · rw [if_pos h] at ht
    exact lv_tableOut C.1 C.2.1 hd h ht (k p e R s m args below meth c H locs ls C hl hH hS hZ)
  · rw [if_neg h] at ht
    have h2 := hlo h
    exact lv_tableIn C.1 C.2.1 hd (fun q => h (Or.inl q)) (fun q => h (Or.inr q)) (off := offs.getD (x.toInt - lo).toNat 0) (by simp [Array.getD, h2]) ht (k p e R s m args below meth c H locs ls C hl hH hS hZ)
theorem wl_zret {v : Int32} {ty : FieldType} (d : St y pc (.ireturn) 1 n) (hr : y.2.2.2 = some ty) (hn : narrow ty (.int v) = .int v) (hc : ct = r.2) (hq : Q (some (.int v)) w) : WL Z κ r y pc L [.int v] w ct Q := by
  obtain ⟨hd, -⟩ := d
  subst hc
  intro p e R s m args below meth c H locs ls C hl hH hS hZ
  exact W.zret C.1 C.2.1 (C.2.2.2.2.2.2.1.trans hr) hn (wp_ret_q ⟨rfl, rfl⟩ hq C hH hS) hS.2.2 hd C.2.2.2.2.2.2.2.1
theorem wl_wide {ct' : Nat × Nat} (h1 : ct.1 ≤ ct'.1) (h2 : ct.2 ≤ ct'.2) (k : WL Z κ r y pc L st w ct' Q) : WL Z κ r y pc L st w ct Q := by
  intro p e R s m args below meth c H locs ls C hl hH hS hZ
  exact W.widen h1 h2 (k p e R s m args below meth c H locs ls C hl hH hS hZ)
theorem wl_newO {i c : Nat} {q : vw_C} {fs : List Value} {ty : Nat → FieldType} (f : Cond.classLink y.1.cls i q.1 ∈ TB) (hi : Cond.instantiable q.1 q.2.2 ∈ TB) (hn : Cond.initialized q.1 ∈ TB) (hq : vwCl[c]? = some q) (hty : ∀ k, k < q.2.2 → parseFieldDescriptor (q.2.1 k).2.2.1 = some (ty k)) (hfs : ∀ j, j < q.2.2 → defaultValue (ty j) = vp_V fs j) (d : St y pc (.new i) 3 n) (hc : ct.1 + 1 ≤ r.2.1 ∧ ct.2 + q.2.2 ≤ r.2.2) (k : ∀ a, WL Z κ r y n L (.ref a :: st) (w0 ++ (l ++ [(a, .inr (c, fs))])) (ct.1 + 1, ct.2 + q.2.2) Q) : WL Z κ r y pc L st (w0 ++ l) ct Q := by
  obtain ⟨hd, rfl⟩ := d
  obtain ⟨h8, hw, -, hnm, hn8⟩ := cl_ok hq
  obtain ⟨qC, qT, qN⟩ := q
  intro p e R s m args below meth cd H locs ls C hl hH hS hZ
  have hR := C.2.2.2.2.2.1
  refine va_new (C := qC) (T := qT) (N := qN) (ci := c) (fs := fs) C.1 C.2.1 C.2.2.2.2.1 hw ty hty C.2.2.2.1 (C.2.2.2.2.1 _ f) (C.2.2.2.2.1 _ hi) (C.2.2.2.2.1 _ hn) C.2.2.2.2.2.2.2.2.2.1.1 hH.1 hH.2.1 hS (fun q h => Nat.le_trans C.2.2.2.2.2.2.2.2.2.2.1 h) hq hfs (by rw [hR.2.2.1]; exact hc.1) (by rw [hR.2.2.2]; exact hc.2) hd (fun a H1 hP hD hS1 => ?_)
  rw [List.append_assoc] at hP hD
  exact k a p e R s m args below meth cd H1 locs ls C hl (HW.mk1 C.2.2.2.2.2.2.2.2.2.2.1 C.2.2.2.2.2.2.2.2.2.2.2 hP hD hS1) hS1 hZ
theorem wl_back {p : Program} {e : Env} {R : Room} {s : State} {m : MethodId} {args : Array Value} {below : List Frame} {meth : Method} {c : Code} {H : Heap} {locs : List Loc} {ls : Array Slot} {stk : List Value} {a : Array Value} (C : Cx κ r y p R s m args meth c) (hl : lvL ls y.2.2.1 L) (hS : va_S (kA κ) s.heap H locs) (hZ : Z s)
    (h : va_Run p κ.1 e R s m args below meth c H locs ct.1 ct.2 r'.2.1 r'.2.2 (F0 m pc ls stk) st (QW κ (fun v w' => WL Z κ r y (pc + 3) L (psh v st) w' (ct.1 + r'.2.1, ct.2 + r'.2.2) Q) a) (kA κ)) : W p κ.1 e R s m args below meth c H locs ct.1 ct.2 (MQ below (QW κ Q) args s r.2.1 r.2.2 (kA κ)) (F0 m pc ls stk) := by
  intro T hT X
  obtain ⟨v, st₀, t, T', L', h0, X', hL, e1, e2, ⟨⟨v2, w', hv, hQ, hH'⟩, hz, hk⟩, stp⟩ := h T hT X
  cases hv
  rw [h0] at hz hk
  have hS' : va_S (kA κ) s.heap t.heap (locs ++ L') := ⟨Nat.le_trans hS.1 hz, fun q h1 h2 => by rw [hk q (Nat.lt_of_lt_of_le h1 hS.1) h2]; exact hS.2.1 q h1 h2, fun q hq => by
    rcases List.mem_append.mp hq with h | h
    · exact hS.2.2 q h
    · exact hL q h⟩
  have hpsh : v.toList ++ st = psh v st := by cases v <;> rfl
  obtain ⟨t2, a1, b1⟩ := hQ p e R s m args below meth c t.heap (locs ++ L') ls C hl hH' hS' hZ T' e1 X'
  rw [← hpsh] at a1
  exact ⟨t2, stp t2 a1, b1⟩
theorem wl_callI {i na a : Nat} {As : List Value} {stk : List Value} (f : CI y.1.cls i y' na) (d : St y pc (.invokespecial i) 3 n) (lv : Lev r r' ct) (hn : As.length = na) (hst : stk = As.reverse ++ .ref a :: st) (hcat : (st.map fun v => v.category).sum ≤ 8) (h : CT κ r' y' (.ref a :: As) w (fun v w' => WL Z κ r y n L (psh v st) w' (ct.1 + r'.2.1, ct.2 + r'.2.2) Q)) : WL Z κ r y pc L stk w ct Q := by
  obtain ⟨hd, rfl⟩ := d
  intro p e R s m args below meth c H locs ls C hl hH hS hZ
  have hR := C.2.2.2.2.2.1
  have hcb := wp_callB C f.1 f.2.2.2.2 lv
  unfold CT at h
  rw [f.2.2.2.1] at hcb h
  exact wl_back C hl hS hZ (va_runI ⟨C.1, C.2.1, C.2.2.1, C.2.2.2.1, C.2.2.2.2.1⟩ h ⟨hcb, f.2.2.1, C.2.2.2.2.1 _ f.2.1⟩ (wp_preS C hH) rfl hn hl.1 hst (lv_room hcat) hd ⟨by rw [hR.2.2.1]; exact lv.2.1, by rw [hR.2.2.2]; exact lv.2.2⟩)
theorem wl_callV {i na k c : Nat} {As : List Value} {stk : List Value} (f : CV y.1.cls i y' na) (d : St y pc (.invokevirtual i) 3 n) (hk : kd k = c) (hc : (vwCl[c]?).map (fun q => q.1) = some y'.1.cls) (lv : Lev r r' ct) (hn : As.length = na) (hst : stk = As.reverse ++ rv κ k :: st) (hcat : (st.map fun v => v.category).sum ≤ 8) (h : CT κ r' y' (rv κ k :: As) (wM κ M) (fun v w' => WL Z κ r y n L (psh v st) w' (ct.1 + r'.2.1, ct.2 + r'.2.2) Q)) : WL Z κ r y pc L stk (wM κ M) ct Q := by
  obtain ⟨hd, rfl⟩ := d
  intro p e R s m args below meth cd H locs ls C hl hH hS hZ
  have hR := C.2.2.2.2.2.1
  have hrc : ∃ cellB : Cell, H[ka κ k]? = some cellB ∧ cellB.vm.isStatics = false ∧ s.vm.findClass y'.1.cls = some cellB.cls := by
    cases hq : vwCl[c]? with
    | none => rw [hq] at hc; cases hc
    | some q =>
      rw [hq] at hc
      have hq1 : q.1 = y'.1.cls := Option.some.inj hc
      rw [← hq1]
      have h8 := (cl_ok hq).1
      exact va_recv C.2.2.2.2.2.2.2.2.2.1.1 hH.1 hq (q0 := k) (by rw [wM_at κ M (kd_lt hk (by omega)), ceq_obj hk h8])
  have hp := wp_preS (As := rv κ k :: As) C hH
  exact wl_back C hl hS hZ (va_runV (C := y'.1.cls) ⟨C.1, C.2.1, C.2.2.1, C.2.2.2.1, C.2.2.2.2.1⟩ h ⟨wp_callB C f.1 f.2.2.2 lv, C.2.2.2.2.1 _ f.2.1, C.2.2.2.2.1 _ f.2.2.1⟩ ⟨hp.1, hrc, hp.2⟩ rfl hn hl.1 hst (lv_room hcat) hd ⟨by rw [hR.2.2.1]; exact lv.2.1, by rw [hR.2.2.2]; exact lv.2.2⟩)
theorem wl_cg {w' : va_W} (e : w = w') (h : WL Z κ r y pc L st w' ct Q) : WL Z κ r y pc L st w ct Q := e ▸ h
theorem wl_kset {a : Nat → Nat} (h : WL Z (kset κ a) r y pc L st w ct Q) : WL Z κ r y pc L st w ct Q := h
theorem wl_sld {b N j : Nat} {xs : Nat → Int32} {x : Int32} (hb : b < kb κ) (d : St y pc (.iaload) 1 n) (hx : x = nI j) (hj : j < N) (hN : N < 1000) (k : WL (ZS b N xs) κ r y n L (.int (xs j) :: st) w ct Q) : WL (ZS b N xs) κ r y pc L (.int x :: .ref b :: st) w ct Q := by
  obtain ⟨hd, rfl⟩ := d
  intro p e R s m args below meth c H locs ls C hl hH hS hZ
  have ej : x.toNatClampNeg = j := by rw [hx]; exact nI_clamp (by omega)
  refine va_sld (A := kA κ) C.1 C.2.1 hZ.1 hZ.2 (Nat.not_le.mpr hb) hS (by rw [hx]; exact vp_in_nI hj (by omega)) hd ?_
  rw [ej]
  exact k p e R s m args below meth c H locs ls C hl hH hS hZ
theorem wl_slen {b N : Nat} {xs : Nat → Int32} (hb : b < kb κ) (d : St y pc (.arraylength) 1 n) (k : WL (ZS b N xs) κ r y n L (.int (nI N) :: st) w ct Q) : WL (ZS b N xs) κ r y pc L (.ref b :: st) w ct Q := by
  obtain ⟨hd, rfl⟩ := d
  intro p e R s m args below meth c H locs ls C hl hH hS hZ
  exact va_slen (A := kA κ) C.1 C.2.1 hZ.1 hZ.2 (Nat.not_le.mpr hb) hS hd (k p e R s m args below meth c H locs ls C hl hH hS hZ)
end WLR
theorem law_gt {N i : Nat} (hN : N ≤ 448) (hi : i ≤ 1000) : (nI N - 7 < nI i) ↔ N < i + 7 := by
  have e7 : (7 : Int32).toInt = 7 := rfl
  have eN : (nI N).toInt = N := nI_toInt (by omega)
  have ei : (nI i).toInt = i := nI_toInt (by omega)
  have es : (nI N - 7).toInt = N - 7 := by
    rw [Int32.toInt_sub, eN, e7, Int.bmod_eq_of_le (by omega) (by omega)]
  rw [i32_lt, es, ei]
  omega
