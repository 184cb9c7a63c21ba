/-! THE JUDGEMENT: one world for the whole run, its cells at the addresses ka; contracts in the form 'what must hold behind it' -/
abbrev KX : Type := Launch × va_G × Nat × Heap × (Nat → ClassId) × Nat × Nat × (Nat → Nat)
def kD (κ : KX) : va_G := κ.2.1
def kb (κ : KX) : Nat := κ.2.2.1
def kH (κ : KX) : Heap := κ.2.2.2.1
def kc (κ : KX) : Nat → ClassId := κ.2.2.2.2.1
def ksK (κ : KX) : Nat := κ.2.2.2.2.2.1
def ksV (κ : KX) : Nat := κ.2.2.2.2.2.2.1
def ka (κ : KX) : Nat → Nat := κ.2.2.2.2.2.2.2
def kA (κ : KX) : Nat → Prop := fun q => kb κ ≤ q
/-- the class number of the arrays: 0 int, 1 char, 2 long, 3 of Standing, 4 of Sheet -/
def ktys (κ : KX) : List (ClassId × FieldType) := [(kc κ 0, .int), (kc κ 1, .char), (kc κ 2, .long), (kc κ 3, .object RX3), (kc κ 4, .object RX2)]
/-- what is known of the tables, and of what lay in the heap at first -/
def KN (κ : KX) (U : State) : Prop :=
  va_K (kD κ) vwCl (ktys κ) U ∧ (∀ w ∈ NW, va_Nw w U) ∧ vk_R RX5 66 "psmda" (ksK κ) U ∧ vk_S 1 [5] [[112, 115, 109, 100, 97]] (fun _ => ksK κ) (fun _ => ksV κ) (kA κ) U (kH κ) ∧ va_Z "java/lang/String" "COMPACT_STRINGS" "Z" (.int 1) (kA κ) U (kH κ) ∧ va_AO RX3 U ∧ va_AO RX2 U
theorem nest_shape {w : Cond} (h : w ∈ NW) : ∃ a i x b, w = .methodLinkNest a i x b := by
  have h2 := (List.mem_filter.mp h).2
  cases w <;> first | exact ⟨_, _, _, _, rfl⟩ | (exact absurd h2 (by simp [isNest]))
theorem KN.moved {κ : KX} {s U : State} (hW : s.WarmedH U.vm) (h : KN κ s) : KN κ U := by
  obtain ⟨h1, h2, h3, h4, h5, h6, h7⟩ := h
  refine ⟨va_K.moved hW.alike h1, fun w hw => ?_, vk_R.warm hW h3, vk_S.moved hW.alike h4, va_Z.moved hW.alike h5, va_AO.moved hW.alike h6, va_AO.moved hW.alike h7⟩
  obtain ⟨a, i, x, b, rfl⟩ := nest_shape hw
  exact va_Nw.warmM hW (h2 _ hw)
theorem KN.same {κ : KX} {s U : State} (hv : U.vm = s.vm) (h : KN κ s) : KN κ U := by
  obtain ⟨h1, h2, h3, h4, h5, h6, h7⟩ := h
  have ha : s.vm.Alike U.vm := by rw [hv]; exact Vm.Alike.refl _
  refine ⟨va_K.moved ha h1, fun w hw => ?_, vk_R.same hv h3, vk_S.moved ha h4, va_Z.moved ha h5, va_AO.moved ha h6, va_AO.moved ha h7⟩
  obtain ⟨a, i, x, b, rfl⟩ := nest_shape hw
  exact va_Nw.same rfl hv.symm (h2 _ hw)
/-- the heap holds the world w; below the base all is as at first -/
def HW (κ : KX) (w : va_W) (H : Heap) : Prop := va_P (kD κ) vwCl w H ∧ va_D (kA κ) w ∧ kb κ ≤ H.size ∧ ∀ q, q < kb κ → H[q]? = (kH κ)[q]?
/-- a method's room: how deep (frames and locals), cells, slots -/
abbrev RM : Type := Nat × Nat × Nat
def rm_of (r : RM) : Room := { frames := r.1, cells := r.2.1, slots := r.2.2, locals := 37 * r.1 }
def Cx (κ : KX) (r : RM) (y : MD) (p : Program) (R : Room) (s : State) (m : MethodId) (args : Array Value) (meth : Method) (c : Code) : Prop :=
  p.tables.exec = Jvm.exec ∧ c.code = y.2.1 ∧ c.maxLocals = y.2.2.1 ∧ s.vm.findClass y.1.cls = some m.cls ∧ (∀ w ∈ TB, w.before args s = true) ∧ (r.1 ≤ R.frames ∧ 37 * r.1 ≤ R.locals ∧ R.cells = r.2.1 ∧ R.slots = r.2.2) ∧ meth.sig.returnType = y.2.2.2 ∧ meth.locks = false ∧ meth.name = y.1.name ∧ KN κ s ∧ kb κ ≤ s.heap.size ∧ (∀ q, q < kb κ → s.heap[q]? = (kH κ)[q]?)
def QW (κ : KX) (Q : Option Value → va_W → Prop) : Array Value → State → Outcome → State → Prop := fun _ st o t => (∃ (v : Option Value) (w : va_W), o = .returned v ∧ Q v w ∧ HW κ w t.heap) ∧ va_F (kA κ) st t
/-- the locals by their numbers: what is known of each -/
def lvA (L : List (Option Value)) : List (Nat × Value) := (List.range L.length).filterMap fun j => (L.getD j none).map fun v => (j, v)
def lvL (ls : Array Slot) (nL : Nat) (L : List (Option Value)) : Prop := lv_has ls nL (lvA L)
theorem lvA_mem {L : List (Option Value)} {i : Nat} {v : Value} (h : L[i]? = some (some v)) : (i, v) ∈ lvA L := by
  have hl := (List.getElem?_eq_some_iff.mp h).1
  refine List.mem_filterMap.mpr ⟨i, List.mem_range.mpr hl, ?_⟩
  simp [List.getD_eq_getElem?_getD, h]
theorem lvA_of {L : List (Option Value)} {q : Nat × Value} (h : q ∈ lvA L) : L[q.1]? = some (some q.2) := by
  obtain ⟨j, hj, h2⟩ := List.mem_filterMap.mp h
  have hl := List.mem_range.mp hj
  cases hx : L.getD j none with
  | none => rw [hx] at h2; cases h2
  | some v =>
    rw [hx] at h2
    cases h2
    rw [List.getD_eq_getElem?_getD, List.getElem?_eq_getElem hl] at hx
    rw [List.getElem?_eq_getElem hl]
    simpa using hx
theorem lvL_at {ls : Array Slot} {nL : Nat} {L : List (Option Value)} (h : lvL ls nL L) {i : Nat} {v : Value} (hi : L[i]? = some (some v)) : ls[i]? = some (.val v) := h.2.2 (i, v) (lvA_mem hi)
theorem lvL_set {ls : Array Slot} {nL i : Nat} {v : Value} {L : List (Option Value)} (h : lv_has ls nL ((i, v) :: (lvA L).filter (fun q => !(q.1 == i) && !(q.1 + 1 == i && q.2.category == 2)))) (hc : ∀ u, 0 < i → L[i - 1]? = some (some u) → u.category = 1) (hi : i < L.length) : lvL ls nL (L.set i (some v)) := by
  refine ⟨h.1, h.2.1, fun q hq => ?_⟩
  have h1 := lvA_of hq
  by_cases hqi : q.1 = i
  · rw [hqi, List.getElem?_set_self hi] at h1
    have h2 : q.2 = v := (Option.some.inj (Option.some.inj h1)).symm
    have h3 := h.2.2 (i, v) List.mem_cons_self
    rw [hqi, h2]
    exact h3
  · rw [List.getElem?_set_ne (fun z => hqi z.symm)] at h1
    refine h.2.2 q (List.mem_cons_of_mem _ (List.mem_filter.mpr ⟨lvA_mem h1, ?_⟩))
    by_cases hq1 : q.1 + 1 = i
    · have h2 := hc q.2 (by omega) (by rw [← hq1]; exact h1)
      simp [hqi, h2]
    · simp [hqi, hq1]
theorem lvL_none {ls : Array Slot} {nL i : Nat} {L : List (Option Value)} (h : lvL ls nL L) : lvL ls nL (L.set i none) := by
  refine ⟨h.1, h.2.1, fun q hq => ?_⟩
  have h1 := lvA_of hq
  by_cases hqi : q.1 = i
  · rw [hqi] at h1
    by_cases hi : i < L.length
    · rw [List.getElem?_set_self hi] at h1
      cases h1
    · rw [List.getElem?_eq_none (by simp; omega)] at h1
      cases h1
  · rw [List.getElem?_set_ne (fun z => hqi z.symm)] at h1
    exact h.2.2 q (lvA_mem h1)
def lcat : Option Value → Bool
  | some v => v.category == 1
  | none => true
theorem lcat_of {o : Option Value} (h : lcat o = true) {u : Value} (hu : o = some u) : u.category = 1 := by
  subst hu
  simpa [lcat] using h
/-- the locals at a method's entry -/
def lvE : List Value → List (Option Value)
  | [] => []
  | v :: l => if v.category = 2 then some v :: none :: lvE l else some v :: lvE l
theorem lvE_args : ∀ (vs : List Value) (i : Nat) (L0 : List (Option Value)) (q : Nat × Value), (L0 ++ lvE vs)[q.1]? = some (some q.2) → L0.length = i → i ≤ q.1 → q ∈ lv_args i vs
  | [], i, L0, q, h, hl, hi => by
    rw [lvE, List.append_nil, List.getElem?_eq_none (by omega)] at h
    cases h
  | v :: vs, i, L0, q, h, hl, hi => by
    by_cases hc : v.category = 2
    · have e : L0 ++ lvE (v :: vs) = (L0 ++ [some v, none]) ++ lvE vs := by simp [lvE, hc]
      simp only [lv_args, hc, if_true]
      rcases Nat.lt_or_ge q.1 (i + 2) with hq | hq
      · rcases (by omega : q.1 = i ∨ q.1 = i + 1) with hz | hz
        · rw [e, List.append_assoc, List.getElem?_append_right (by omega), hz, hl, Nat.sub_self] at h
          simp at h
          refine List.mem_cons.mpr (Or.inl ?_)
          rw [← hz, h]
        · rw [e, List.append_assoc, List.getElem?_append_right (by omega), hz, hl, Nat.add_sub_cancel_left] at h
          simp at h
      · rw [e] at h
        exact List.mem_cons_of_mem _ (lvE_args vs (i + 2) (L0 ++ [some v, none]) q h (by simp [hl]) hq)
    · have e : L0 ++ lvE (v :: vs) = (L0 ++ [some v]) ++ lvE vs := by simp [lvE, hc]
      simp only [lv_args, hc, if_false]
      rcases Nat.lt_or_ge q.1 (i + 1) with hq | hq
      · have hz : q.1 = i := by omega
        rw [e, List.append_assoc, List.getElem?_append_right (by omega), hz, hl, Nat.sub_self] at h
        simp at h
        refine List.mem_cons.mpr (Or.inl ?_)
        rw [← hz, h]
      · rw [e] at h
        exact List.mem_cons_of_mem _ (lvE_args vs (i + 1) (L0 ++ [some v]) q h (by simp [hl]) hq)
def WP (κ : KX) (r : RM) (y : MD) (pc : Nat) (L : List (Option Value)) (st : List Value) (w : va_W) (ct : Nat × Nat) (Q : Option Value → va_W → Prop) : Prop :=
  ∀ (p : Program) (e : Env) (R : Room) (s : State) (m : MethodId) (args : Array Value) (below : List Frame) (meth : Method) (c : Code) (H : Heap) (locs : List Loc) (ls : Array Slot),
    Cx κ r y p R s m args meth c → lvL ls y.2.2.1 L → HW κ w H → va_S (kA κ) s.heap H locs →
    W p κ.1 e R s m args below meth c H locs ct.1 ct.2 (MQ below (QW κ Q) args s r.2.1 r.2.2 (kA κ)) (F0 m pc ls st)
def PU (κ : KX) (w : va_W) : State → Prop := fun U => HW κ w U.heap ∧ KN κ U
/-- a method's contract: from the world w with the arguments as, y comes back with Q -/
def CT (κ : KX) (r : RM) (y : MD) (as : List Value) (w : va_W) (Q : Option Value → va_W → Prop) : Prop :=
  Met κ.1 y.1 (Cond.code y.1 y.2.1 y.2.2.1 y.2.2.2 :: TB) (rm_of r) (va_Pc as (PU κ w)) (QW κ Q) r.2.1 r.2.2 (kA κ)
theorem PU.blind {κ : KX} {w : va_W} {as : List Value} : FrameBlind (va_Pc as (PU κ w)) := fun a U g mk h => ⟨h.1, h.2.1, KN.same (s := U) rfl h.2.2⟩
theorem CT.of {κ : KX} {r : RM} {y : MD} {as : List Value} {w : va_W} {Q : Option Value → va_W → Prop} {na : Nat} (ok : cOK y na) (L : List (Option Value)) (hn : (lg_sl as).length ≤ y.2.2.1) (hL : lvE as ++ List.replicate (y.2.2.1 - (lvE as).length) none = L) (h : WP κ r y 0 L [] w (0, 0) Q) : CT κ r y as w Q := by
  refine Met.ofW (cc := y.2.1) (maxL := y.2.2.1) (ret := y.2.2.2) ok.2.2.2.2.2 rfl ?_
  intro p e s m args below meth c s₁ B hml hv
  obtain ⟨rfl, hH, hK⟩ := hv
  have hts := atoms_spec (ws := Cond.code y.1 y.2.1 y.2.2.1 y.2.2.2 :: TB) B.pre
  have hl := lv_entry as (n := y.2.2.1) hn
  rw [lg_entry_eq]
  refine h p e _ s m _ below meth c s.heap [] _ ⟨B.exec, B.bytes, hml, findClass_of_methodNamed B.named, fun w hw => hts w (List.mem_cons_of_mem _ hw), ⟨Nat.le_refl _, Nat.le_refl _, rfl, rfl⟩, B.returns, B.notSynchronized, (name_of_methodNamed B.named B.method).1, hK, hH.2.2.1, hH.2.2.2⟩ ⟨hl.1, hl.2.1, fun q hq => hl.2.2 q ?_⟩ hH va_S.rf
  have h1 := lvA_of hq
  rw [← hL] at h1
  have h2 : (lvE as)[q.1]? = some (some q.2) := by
    by_cases hx : q.1 < (lvE as).length
    · rw [List.getElem?_append_left hx] at h1
      exact h1
    · rw [List.getElem?_append_right (by omega)] at h1
      have := List.eq_of_mem_replicate (List.mem_of_getElem? h1)
      cases this
  exact lvE_args as 0 [] q (by simpa using h2) rfl (Nat.zero_le _)
section WPR
variable {κ : KX} {r : RM} {y : MD} {pc n : Nat} {L : List (Option Value)} {st : List Value} {w : va_W} {ct : Nat × Nat} {Q : Option Value → va_W → Prop}
theorem wp_iconst {i : Int} {v : Int32} (d : St y pc (.iconst i) 1 n) (hv : Int32.ofInt i = v) (k : WP κ r y n L (.int v :: st) w ct Q) : WP κ r y pc L (st) w ct Q := by
  obtain ⟨hd, rfl⟩ := d
  intro p e R s m args below meth c H locs ls C hl hH hS
  exact lv_iconst C.1 C.2.1 hd hv (k p e R s m args below meth c H locs ls C hl hH hS)
theorem wp_bipush {i : Int} {v : Int32} (d : St y pc (.bipush i) 2 n) (hv : (Int8.ofInt i).toInt32 = v) (k : WP κ r y n L (.int v :: st) w ct Q) : WP κ r y pc L (st) w ct Q := by
  obtain ⟨hd, rfl⟩ := d
  intro p e R s m args below meth c H locs ls C hl hH hS
  exact lv_bipush C.1 C.2.1 hd hv (k p e R s m args below meth c H locs ls C hl hH hS)
theorem wp_sipush {i : Int} {v : Int32} (d : St y pc (.sipush i) 3 n) (hv : (Int16.ofInt i).toInt32 = v) (k : WP κ r y n L (.int v :: st) w ct Q) : WP κ r y pc L (st) w ct Q := by
  obtain ⟨hd, rfl⟩ := d
  intro p e R s m args below meth c H locs ls C hl hH hS
  exact lv_sipush C.1 C.2.1 hd hv (k p e R s m args below meth c H locs ls C hl hH hS)
theorem wp_lconst {i : Fin 2} {v : Int64} (d : St y pc (.lconst i) 1 n) (hv : Int64.ofNat (i : Nat) = v) (k : WP κ r y n L (.long v :: st) w ct Q) : WP κ r y pc L (st) w ct Q := by
  obtain ⟨hd, rfl⟩ := d
  intro p e R s m args below meth c H locs ls C hl hH hS
  exact lv_lconst C.1 C.2.1 hd hv (k p e R s m args below meth c H locs ls C hl hH hS)
theorem wp_iadd {x z : Int32} (d : St y pc (.iadd) 1 n) (k : WP κ r y n L (.int (x + z) :: st) w ct Q) : WP κ r y pc L (.int z :: .int x :: st) w ct Q := by
  obtain ⟨hd, rfl⟩ := d
  intro p e R s m args below meth c H locs ls C hl hH hS
  exact lv_iadd C.1 C.2.1 hd (k p e R s m args below meth c H locs ls C hl hH hS)
theorem wp_isub {x z : Int32} (d : St y pc (.isub) 1 n) (k : WP κ r y n L (.int (x - z) :: st) w ct Q) : WP κ r y pc L (.int z :: .int x :: st) w ct Q := by
  obtain ⟨hd, rfl⟩ := d
  intro p e R s m args below meth c H locs ls C hl hH hS
  exact lv_isub C.1 C.2.1 hd (k p e R s m args below meth c H locs ls C hl hH hS)
theorem wp_imul {x z : Int32} (d : St y pc (.imul) 1 n) (k : WP κ r y n L (.int (x * z) :: st) w ct Q) : WP κ r y pc L (.int z :: .int x :: st) w ct Q := by
  obtain ⟨hd, rfl⟩ := d
  intro p e R s m args below meth c H locs ls C hl hH hS
  exact lv_imul C.1 C.2.1 hd (k p e R s m args below meth c H locs ls C hl hH hS)
theorem wp_iand {x z : Int32} (d : St y pc (.iand) 1 n) (k : WP κ r y n L (.int (x &&& z) :: st) w ct Q) : WP κ r y pc L (.int z :: .int x :: st) w ct Q := by
  obtain ⟨hd, rfl⟩ := d
  intro p e R s m args below meth c H locs ls C hl hH hS
  exact lv_iand C.1 C.2.1 hd (k p e R s m args below meth c H locs ls C hl hH hS)
theorem wp_ior {x z : Int32} (d : St y pc (.ior) 1 n) (k : WP κ r y n L (.int (x ||| z) :: st) w ct Q) : WP κ r y pc L (.int z :: .int x :: st) w ct Q := by
  obtain ⟨hd, rfl⟩ := d
  intro p e R s m args below meth c H locs ls C hl hH hS
  exact lv_ior C.1 C.2.1 hd (k p e R s m args below meth c H locs ls C hl hH hS)
theorem wp_ixor {x z : Int32} (d : St y pc (.ixor) 1 n) (k : WP κ r y n L (.int (x ^^^ z) :: st) w ct Q) : WP κ r y pc L (.int z :: .int x :: st) w ct Q := by
  obtain ⟨hd, rfl⟩ := d
  intro p e R s m args below meth c H locs ls C hl hH hS
  exact lv_ixor C.1 C.2.1 hd (k p e R s m args below meth c H locs ls C hl hH hS)
theorem wp_ishl {x z : Int32} (d : St y pc (.ishl) 1 n) (k : WP κ r y n L (.int (x <<< (z &&& 31)) :: st) w ct Q) : WP κ r y pc L (.int z :: .int x :: st) w ct Q := by
  obtain ⟨hd, rfl⟩ := d
  intro p e R s m args below meth c H locs ls C hl hH hS
  exact lv_ishl C.1 C.2.1 hd (k p e R s m args below meth c H locs ls C hl hH hS)
theorem wp_ishr {x z : Int32} (d : St y pc (.ishr) 1 n) (k : WP κ r y n L (.int (x >>> (z &&& 31)) :: st) w ct Q) : WP κ r y pc L (.int z :: .int x :: st) w ct Q := by
  obtain ⟨hd, rfl⟩ := d
  intro p e R s m args below meth c H locs ls C hl hH hS
  exact lv_ishr C.1 C.2.1 hd (k p e R s m args below meth c H locs ls C hl hH hS)
theorem wp_idiv {x z : Int32} (d : St y pc (.idiv) 1 n) (hne : ¬ z = 0) (k : WP κ r y n L (.int (x / z) :: st) w ct Q) : WP κ r y pc L (.int z :: .int x :: st) w ct Q := by
  obtain ⟨hd, rfl⟩ := d
  intro p e R s m args below meth c H locs ls C hl hH hS
  exact lv_idiv C.1 C.2.1 hd hne (k p e R s m args below meth c H locs ls C hl hH hS)
theorem wp_irem {x z : Int32} (d : St y pc (.irem) 1 n) (hne : ¬ z = 0) (k : WP κ r y n L (.int (x - x / z * z) :: st) w ct Q) : WP κ r y pc L (.int z :: .int x :: st) w ct Q := by
  obtain ⟨hd, rfl⟩ := d
  intro p e R s m args below meth c H locs ls C hl hH hS
  exact lv_irem C.1 C.2.1 hd hne (k p e R s m args below meth c H locs ls C hl hH hS)
theorem wp_ineg {x : Int32} (d : St y pc (.ineg) 1 n) (k : WP κ r y n L (.int (-x) :: st) w ct Q) : WP κ r y pc L (.int x :: st) w ct Q := by
  obtain ⟨hd, rfl⟩ := d
  intro p e R s m args below meth c H locs ls C hl hH hS
  exact lv_ineg C.1 C.2.1 hd (k p e R s m args below meth c H locs ls C hl hH hS)
theorem wp_ladd {x z : Int64} (d : St y pc (.ladd) 1 n) (k : WP κ r y n L (.long (x + z) :: st) w ct Q) : WP κ r y pc L (.long z :: .long x :: st) w ct Q := by
  obtain ⟨hd, rfl⟩ := d
  intro p e R s m args below meth c H locs ls C hl hH hS
  exact lv_ladd C.1 C.2.1 hd (k p e R s m args below meth c H locs ls C hl hH hS)
theorem wp_lmul {x z : Int64} (d : St y pc (.lmul) 1 n) (k : WP κ r y n L (.long (x * z) :: st) w ct Q) : WP κ r y pc L (.long z :: .long x :: st) w ct Q := by
  obtain ⟨hd, rfl⟩ := d
  intro p e R s m args below meth c H locs ls C hl hH hS
  exact lv_lmul C.1 C.2.1 hd (k p e R s m args below meth c H locs ls C hl hH hS)
theorem wp_land {x z : Int64} (d : St y pc (.land) 1 n) (k : WP κ r y n L (.long (x &&& z) :: st) w ct Q) : WP κ r y pc L (.long z :: .long x :: st) w ct Q := by
  obtain ⟨hd, rfl⟩ := d
  intro p e R s m args below meth c H locs ls C hl hH hS
  exact lv_land C.1 C.2.1 hd (k p e R s m args below meth c H locs ls C hl hH hS)
theorem wp_lor {x z : Int64} (d : St y pc (.lor) 1 n) (k : WP κ r y n L (.long (x ||| z) :: st) w ct Q) : WP κ r y pc L (.long z :: .long x :: st) w ct Q := by
  obtain ⟨hd, rfl⟩ := d
  intro p e R s m args below meth c H locs ls C hl hH hS
  exact lv_lor C.1 C.2.1 hd (k p e R s m args below meth c H locs ls C hl hH hS)
theorem wp_lrem {x z : Int64} (d : St y pc (.lrem) 1 n) (hne : ¬ z = 0) (k : WP κ r y n L (.long (x - x / z * z) :: st) w ct Q) : WP κ r y pc L (.long z :: .long x :: st) w ct Q := by
  obtain ⟨hd, rfl⟩ := d
  intro p e R s m args below meth c H locs ls C hl hH hS
  exact lv_lrem C.1 C.2.1 hd hne (k p e R s m args below meth c H locs ls C hl hH hS)
theorem wp_iushr {x z : Int32} (d : St y pc (.iushr) 1 n) (k : WP κ r y n L (.int (x.toUInt32 >>> (z.toUInt32 &&& Int32.toUInt32 31)).toInt32 :: st) w ct Q) : WP κ r y pc L (.int z :: .int x :: st) w ct Q := by
  obtain ⟨hd, rfl⟩ := d
  intro p e R s m args below meth c H locs ls C hl hH hS
  exact lv_iushr C.1 C.2.1 hd rfl (k p e R s m args below meth c H locs ls C hl hH hS)
theorem wp_lshl {x : Int64} {z : Int32} (d : St y pc (.lshl) 1 n) (k : WP κ r y n L (.long (x <<< (z.toInt64 &&& 63)) :: st) w ct Q) : WP κ r y pc L (.int z :: .long x :: st) w ct Q := by
  obtain ⟨hd, rfl⟩ := d
  intro p e R s m args below meth c H locs ls C hl hH hS
  exact lv_lshl C.1 C.2.1 hd rfl (k p e R s m args below meth c H locs ls C hl hH hS)
theorem wp_i2l {x : Int32} (d : St y pc (.i2l) 1 n) (k : WP κ r y n L (.long x.toInt64 :: st) w ct Q) : WP κ r y pc L (.int x :: st) w ct Q := by
  obtain ⟨hd, rfl⟩ := d
  intro p e R s m args below meth c H locs ls C hl hH hS
  exact lv_i2l C.1 C.2.1 hd rfl (k p e R s m args below meth c H locs ls C hl hH hS)
theorem wp_l2i {x : Int64} (d : St y pc (.l2i) 1 n) (k : WP κ r y n L (.int x.toInt32 :: st) w ct Q) : WP κ r y pc L (.long x :: st) w ct Q := by
  obtain ⟨hd, rfl⟩ := d
  intro p e R s m args below meth c H locs ls C hl hH hS
  exact lv_l2i C.1 C.2.1 hd rfl (k p e R s m args below meth c H locs ls C hl hH hS)
theorem wp_i2b {x : Int32} (d : St y pc (.i2b) 1 n) (k : WP κ r y n L (.int x.toInt8.toInt32 :: st) w ct Q) : WP κ r y pc L (.int x :: st) w ct Q := by
  obtain ⟨hd, rfl⟩ := d
  intro p e R s m args below meth c H locs ls C hl hH hS
  exact lv_i2b C.1 C.2.1 hd rfl (k p e R s m args below meth c H locs ls C hl hH hS)
theorem wp_i2s {x : Int32} (d : St y pc (.i2s) 1 n) (k : WP κ r y n L (.int x.toInt16.toInt32 :: st) w ct Q) : WP κ r y pc L (.int x :: st) w ct Q := by
  obtain ⟨hd, rfl⟩ := d
  intro p e R s m args below meth c H locs ls C hl hH hS
  exact lv_i2s C.1 C.2.1 hd rfl (k p e R s m args below meth c H locs ls C hl hH hS)
theorem wp_i2c {x : Int32} (d : St y pc (.i2c) 1 n) (k : WP κ r y n L (.int (x.toUInt32 % 65536).toInt32 :: st) w ct Q) : WP κ r y pc L (.int x :: st) w ct Q := by
  obtain ⟨hd, rfl⟩ := d
  intro p e R s m args below meth c H locs ls C hl hH hS
  exact lv_i2c C.1 C.2.1 hd rfl (k p e R s m args below meth c H locs ls C hl hH hS)
theorem wp_lcmp {x z : Int64} (d : St y pc (.lcmp) 1 n) (k : WP κ r y n L (.int (lg_cmp x z) :: st) w ct Q) : WP κ r y pc L (.long z :: .long x :: st) w ct Q := by
  obtain ⟨hd, rfl⟩ := d
  intro p e R s m args below meth c H locs ls C hl hH hS
  exact W.lcmp C.1 C.2.1 hd (k p e R s m args below meth c H locs ls C hl hH hS)
theorem wp_dup_int {x : Int32} (d : St y pc (.dup) 1 n) (k : WP κ r y n L (.int x :: .int x :: st) w ct Q) : WP κ r y pc L (.int x :: st) w ct Q := by
  obtain ⟨hd, rfl⟩ := d
  intro p e R s m args below meth c H locs ls C hl hH hS
  exact lv_dup C.1 C.2.1 hd rfl (k p e R s m args below meth c H locs ls C hl hH hS)
theorem wp_pop_int {x : Int32} (d : St y pc (.pop) 1 n) (k : WP κ r y n L (st) w ct Q) : WP κ r y pc L (.int x :: st) w ct Q := by
  obtain ⟨hd, rfl⟩ := d
  intro p e R s m args below meth c H locs ls C hl hH hS
  exact lv_pop C.1 C.2.1 hd rfl (k p e R s m args below meth c H locs ls C hl hH hS)
theorem wp_dup_ref {x : Nat} (d : St y pc (.dup) 1 n) (k : WP κ r y n L (.ref x :: .ref x :: st) w ct Q) : WP κ r y pc L (.ref x :: st) w ct Q := by
  obtain ⟨hd, rfl⟩ := d
  intro p e R s m args below meth c H locs ls C hl hH hS
  exact lv_dup C.1 C.2.1 hd rfl (k p e R s m args below meth c H locs ls C hl hH hS)
theorem wp_pop_ref {x : Nat} (d : St y pc (.pop) 1 n) (k : WP κ r y n L (st) w ct Q) : WP κ r y pc L (.ref x :: st) w ct Q := by
  obtain ⟨hd, rfl⟩ := d
  intro p e R s m args below meth c H locs ls C hl hH hS
  exact lv_pop C.1 C.2.1 hd rfl (k p e R s m args below meth c H locs ls C hl hH hS)
theorem wp_dup2_ir {x : Int32} {z : Nat} (d : St y pc (.dup2) 1 n) (k : WP κ r y n L (.int x :: .ref z :: .int x :: .ref z :: st) w ct Q) : WP κ r y pc L (.int x :: .ref z :: st) w ct Q := by
  obtain ⟨hd, rfl⟩ := d
  intro p e R s m args below meth c H locs ls C hl hH hS
  exact lv_dup2_11 C.1 C.2.1 hd rfl rfl (k p e R s m args below meth c H locs ls C hl hH hS)
theorem wp_ldc {i : Nat} {v : Int32} (f : Cond.constant y.1.cls i v ∈ TB) (d : St y pc (.ldc i) 2 n) (k : WP κ r y n L (.int v :: st) w ct Q) : WP κ r y pc L st w ct Q := by
  obtain ⟨hd, rfl⟩ := d
  intro p e R s m args below meth c H locs ls C hl hH hS
  exact lv_ldc C.1 C.2.1 C.2.2.2.1 (C.2.2.2.2.1 _ f) hd (k p e R s m args below meth c H locs ls C hl hH hS)
theorem wp_ldcw {i : Nat} {v : Int32} (f : Cond.constant y.1.cls i v ∈ TB) (d : St y pc (.ldc_w i) 3 n) (k : WP κ r y n L (.int v :: st) w ct Q) : WP κ r y pc L st w ct Q := by
  obtain ⟨hd, rfl⟩ := d
  intro p e R s m args below meth c H locs ls C hl hH hS
  exact lv_ldcw C.1 C.2.1 C.2.2.2.1 (C.2.2.2.2.1 _ f) hd (k p e R s m args below meth c H locs ls C hl hH hS)
theorem wp_ldc2 {i : Nat} {v : Int64} (f : Cond.constantLong y.1.cls i v ∈ TB) (d : St y pc (.ldc2_w i) 3 n) (k : WP κ r y n L (.long v :: st) w ct Q) : WP κ r y pc L st w ct Q := by
  obtain ⟨hd, rfl⟩ := d
  intro p e R s m args below meth c H locs ls C hl hH hS
  exact lv_ldc2 C.1 C.2.1 C.2.2.2.1 (C.2.2.2.2.1 _ f) hd (k p e R s m args below meth c H locs ls C hl hH hS)
theorem wp_if_eq {x : Int32} {off : Int} {tgt : Nat} (d : St y pc (.ifCond .eq off) 3 n) (ht : (pc : Int) + off = (tgt : Int)) (kt : x = 0 → WP κ r y tgt L st w ct Q) (kf : ¬ x = 0 → WP κ r y n L st w ct Q) : WP κ r y pc L (.int x :: st) w ct Q := by
  obtain ⟨hd, rfl⟩ := d
  intro p e R s m args below meth c H locs ls C hl hH hS
  exact lv_if_eq C.1 C.2.1 hd ht (fun q => kt q p e R s m args below meth c H locs ls C hl hH hS) (fun q => kf q p e R s m args below meth c H locs ls C hl hH hS)
theorem wp_if_ne {x : Int32} {off : Int} {tgt : Nat} (d : St y pc (.ifCond .ne off) 3 n) (ht : (pc : Int) + off = (tgt : Int)) (kt : ¬ x = 0 → WP κ r y tgt L st w ct Q) (kf : x = 0 → WP κ r y n L st w ct Q) : WP κ r y pc L (.int x :: st) w ct Q := by
  obtain ⟨hd, rfl⟩ := d
  intro p e R s m args below meth c H locs ls C hl hH hS
  exact lv_if_ne C.1 C.2.1 hd ht (fun q => kt q p e R s m args below meth c H locs ls C hl hH hS) (fun q => kf q p e R s m args below meth c H locs ls C hl hH hS)
theorem wp_if_lt {x : Int32} {off : Int} {tgt : Nat} (d : St y pc (.ifCond .lt off) 3 n) (ht : (pc : Int) + off = (tgt : Int)) (kt : x < 0 → WP κ r y tgt L st w ct Q) (kf : ¬ x < 0 → WP κ r y n L st w ct Q) : WP κ r y pc L (.int x :: st) w ct Q := by
  obtain ⟨hd, rfl⟩ := d
  intro p e R s m args below meth c H locs ls C hl hH hS
  exact lv_if_lt C.1 C.2.1 hd ht (fun q => kt q p e R s m args below meth c H locs ls C hl hH hS) (fun q => kf q p e R s m args below meth c H locs ls C hl hH hS)
theorem wp_if_ge {x : Int32} {off : Int} {tgt : Nat} (d : St y pc (.ifCond .ge off) 3 n) (ht : (pc : Int) + off = (tgt : Int)) (kt : 0 ≤ x → WP κ r y tgt L st w ct Q) (kf : ¬ 0 ≤ x → WP κ r y n L st w ct Q) : WP κ r y pc L (.int x :: st) w ct Q := by
  obtain ⟨hd, rfl⟩ := d
  intro p e R s m args below meth c H locs ls C hl hH hS
  exact lv_if_ge C.1 C.2.1 hd ht (fun q => kt q p e R s m args below meth c H locs ls C hl hH hS) (fun q => kf q p e R s m args below meth c H locs ls C hl hH hS)
theorem wp_if_gt {x : Int32} {off : Int} {tgt : Nat} (d : St y pc (.ifCond .gt off) 3 n) (ht : (pc : Int) + off = (tgt : Int)) (kt : 0 < x → WP κ r y tgt L st w ct Q) (kf : ¬ 0 < x → WP κ r y n L st w ct Q) : WP κ r y pc L (.int x :: st) w ct Q := by
  obtain ⟨hd, rfl⟩ := d
  intro p e R s m args below meth c H locs ls C hl hH hS
  exact lv_if_gt C.1 C.2.1 hd ht (fun q => kt q p e R s m args below meth c H locs ls C hl hH hS) (fun q => kf q p e R s m args below meth c H locs ls C hl hH hS)
theorem wp_if_le {x : Int32} {off : Int} {tgt : Nat} (d : St y pc (.ifCond .le off) 3 n) (ht : (pc : Int) + off = (tgt : Int)) (kt : x ≤ 0 → WP κ r y tgt L st w ct Q) (kf : ¬ x ≤ 0 → WP κ r y n L st w ct Q) : WP κ r y pc L (.int x :: st) w ct Q := by
  obtain ⟨hd, rfl⟩ := d
  intro p e R s m args below meth c H locs ls C hl hH hS
  exact lv_if_le C.1 C.2.1 hd ht (fun q => kt q p e R s m args below meth c H locs ls C hl hH hS) (fun q => kf q p e R s m args below meth c H locs ls C hl hH hS)
theorem wp_icmp_eq {x z : Int32} {off : Int} {tgt : Nat} (d : St y pc (.if_icmp .eq off) 3 n) (ht : (pc : Int) + off = (tgt : Int)) (kt : x = z → WP κ r y tgt L st w ct Q) (kf : ¬ x = z → WP κ r y n L st w ct Q) : WP κ r y pc L (.int z :: .int x :: st) w ct Q := by
  obtain ⟨hd, rfl⟩ := d
  intro p e R s m args below meth c H locs ls C hl hH hS
  exact lv_icmp_eq C.1 C.2.1 hd ht (fun q => kt q p e R s m args below meth c H locs ls C hl hH hS) (fun q => kf q p e R s m args below meth c H locs ls C hl hH hS)
theorem wp_icmp_ne {x z : Int32} {off : Int} {tgt : Nat} (d : St y pc (.if_icmp .ne off) 3 n) (ht : (pc : Int) + off = (tgt : Int)) (kt : ¬ x = z → WP κ r y tgt L st w ct Q) (kf : x = z → WP κ r y n L st w ct Q) : WP κ r y pc L (.int z :: .int x :: st) w ct Q := by
  obtain ⟨hd, rfl⟩ := d
  intro p e R s m args below meth c H locs ls C hl hH hS
  exact lv_icmp_ne C.1 C.2.1 hd ht (fun q => kt q p e R s m args below meth c H locs ls C hl hH hS) (fun q => kf q p e R s m args below meth c H locs ls C hl hH hS)
theorem wp_icmp_lt {x z : Int32} {off : Int} {tgt : Nat} (d : St y pc (.if_icmp .lt off) 3 n) (ht : (pc : Int) + off = (tgt : Int)) (kt : x < z → WP κ r y tgt L st w ct Q) (kf : ¬ x < z → WP κ r y n L st w ct Q) : WP κ r y pc L (.int z :: .int x :: st) w ct Q := by
  obtain ⟨hd, rfl⟩ := d
  intro p e R s m args below meth c H locs ls C hl hH hS
  exact lv_icmp_lt C.1 C.2.1 hd ht (fun q => kt q p e R s m args below meth c H locs ls C hl hH hS) (fun q => kf q p e R s m args below meth c H locs ls C hl hH hS)
theorem wp_icmp_ge {x z : Int32} {off : Int} {tgt : Nat} (d : St y pc (.if_icmp .ge off) 3 n) (ht : (pc : Int) + off = (tgt : Int)) (kt : z ≤ x → WP κ r y tgt L st w ct Q) (kf : ¬ z ≤ x → WP κ r y n L st w ct Q) : WP κ r y pc L (.int z :: .int x :: st) w ct Q := by
  obtain ⟨hd, rfl⟩ := d
  intro p e R s m args below meth c H locs ls C hl hH hS
  exact lv_icmp_ge C.1 C.2.1 hd ht (fun q => kt q p e R s m args below meth c H locs ls C hl hH hS) (fun q => kf q p e R s m args below meth c H locs ls C hl hH hS)
theorem wp_icmp_gt {x z : Int32} {off : Int} {tgt : Nat} (d : St y pc (.if_icmp .gt off) 3 n) (ht : (pc : Int) + off = (tgt : Int)) (kt : z < x → WP κ r y tgt L st w ct Q) (kf : ¬ z < x → WP κ r y n L st w ct Q) : WP κ r y pc L (.int z :: .int x :: st) w ct Q := by
  obtain ⟨hd, rfl⟩ := d
  intro p e R s m args below meth c H locs ls C hl hH hS
  exact lv_icmp_gt C.1 C.2.1 hd ht (fun q => kt q p e R s m args below meth c H locs ls C hl hH hS) (fun q => kf q p e R s m args below meth c H locs ls C hl hH hS)
theorem wp_icmp_le {x z : Int32} {off : Int} {tgt : Nat} (d : St y pc (.if_icmp .le off) 3 n) (ht : (pc : Int) + off = (tgt : Int)) (kt : x ≤ z → WP κ r y tgt L st w ct Q) (kf : ¬ x ≤ z → WP κ r y n L st w ct Q) : WP κ r y pc L (.int z :: .int x :: st) w ct Q := by
  obtain ⟨hd, rfl⟩ := d
  intro p e R s m args below meth c H locs ls C hl hH hS
  exact lv_icmp_le C.1 C.2.1 hd ht (fun q => kt q p e R s m args below meth c H locs ls C hl hH hS) (fun q => kf q p e R s m args below meth c H locs ls C hl hH hS)
theorem wp_goto {off : Int} {tgt : Nat} (d : St y pc (.goto off) 3 n) (ht : (pc : Int) + off = (tgt : Int)) (k : WP κ r y tgt L st w ct Q) : WP κ r y pc L st w ct Q := by
  obtain ⟨hd, rfl⟩ := d
  intro p e R s m args below meth c H locs ls C hl hH hS
  exact lv_goto C.1 C.2.1 hd ht (k p e R s m args below meth c H locs ls C hl hH hS)
theorem wp_iload_0 {x : Int32} (d : St y pc (.iload_n 0) 1 n) (k : WP κ r y n (some (.int x) :: L) (.int x :: st) w ct Q) : WP κ r y pc (some (.int x) :: L) st w ct Q := by
  obtain ⟨hd, rfl⟩ := d
  intro p e R s m args below meth c H locs ls C hl hH hS
  exact lv_iload_n C.1 C.2.1 hd rfl (lvL_at hl (i := 0) rfl) (k p e R s m args below meth c H locs ls C hl hH hS)
theorem wp_iload_1 {x : Int32} {o0 : Option Value} (d : St y pc (.iload_n 1) 1 n) (k : WP κ r y n (o0 :: some (.int x) :: L) (.int x :: st) w ct Q) : WP κ r y pc (o0 :: some (.int x) :: L) st w ct Q := by
  obtain ⟨hd, rfl⟩ := d
  intro p e R s m args below meth c H locs ls C hl hH hS
  exact lv_iload_n C.1 C.2.1 hd rfl (lvL_at hl (i := 1) rfl) (k p e R s m args below meth c H locs ls C hl hH hS)
theorem wp_iload_2 {x : Int32} {o0 : Option Value} {o1 : Option Value} (d : St y pc (.iload_n 2) 1 n) (k : WP κ r y n (o0 :: o1 :: some (.int x) :: L) (.int x :: st) w ct Q) : WP κ r y pc (o0 :: o1 :: some (.int x) :: L) st w ct Q := by
  obtain ⟨hd, rfl⟩ := d
  intro p e R s m args below meth c H locs ls C hl hH hS
  exact lv_iload_n C.1 C.2.1 hd rfl (lvL_at hl (i := 2) rfl) (k p e R s m args below meth c H locs ls C hl hH hS)
theorem wp_iload_3 {x : Int32} {o0 : Option Value} {o1 : Option Value} {o2 : Option Value} (d : St y pc (.iload_n 3) 1 n) (k : WP κ r y n (o0 :: o1 :: o2 :: some (.int x) :: L) (.int x :: st) w ct Q) : WP κ r y pc (o0 :: o1 :: o2 :: some (.int x) :: L) st w ct Q := by
  obtain ⟨hd, rfl⟩ := d
  intro p e R s m args below meth c H locs ls C hl hH hS
  exact lv_iload_n C.1 C.2.1 hd rfl (lvL_at hl (i := 3) rfl) (k p e R s m args below meth c H locs ls C hl hH hS)
theorem wp_iload_4 {x : Int32} {o0 : Option Value} {o1 : Option Value} {o2 : Option Value} {o3 : Option Value} (d : St y pc (.iload 4) 2 n) (k : WP κ r y n (o0 :: o1 :: o2 :: o3 :: some (.int x) :: L) (.int x :: st) w ct Q) : WP κ r y pc (o0 :: o1 :: o2 :: o3 :: some (.int x) :: L) st w ct Q := by
  obtain ⟨hd, rfl⟩ := d
  intro p e R s m args below meth c H locs ls C hl hH hS
  exact lv_iload C.1 C.2.1 hd (lvL_at hl (i := 4) rfl) (k p e R s m args below meth c H locs ls C hl hH hS)
theorem wp_iload_5 {x : Int32} {o0 : Option Value} {o1 : Option Value} {o2 : Option Value} {o3 : Option Value} {o4 : Option Value} (d : St y pc (.iload 5) 2 n) (k : WP κ r y n (o0 :: o1 :: o2 :: o3 :: o4 :: some (.int x) :: L) (.int x :: st) w ct Q) : WP κ r y pc (o0 :: o1 :: o2 :: o3 :: o4 :: some (.int x) :: L) st w ct Q := by
  obtain ⟨hd, rfl⟩ := d
  intro p e R s m args below meth c H locs ls C hl hH hS
  exact lv_iload C.1 C.2.1 hd (lvL_at hl (i := 5) rfl) (k p e R s m args below meth c H locs ls C hl hH hS)
theorem wp_iload_6 {x : Int32} {o0 : Option Value} {o1 : Option Value} {o2 : Option Value} {o3 : Option Value} {o4 : Option Value} {o5 : Option Value} (d : St y pc (.iload 6) 2 n) (k : WP κ r y n (o0 :: o1 :: o2 :: o3 :: o4 :: o5 :: some (.int x) :: L) (.int x :: st) w ct Q) : WP κ r y pc (o0 :: o1 :: o2 :: o3 :: o4 :: o5 :: some (.int x) :: L) st w ct Q := by
  obtain ⟨hd, rfl⟩ := d
  intro p e R s m args below meth c H locs ls C hl hH hS
  exact lv_iload C.1 C.2.1 hd (lvL_at hl (i := 6) rfl) (k p e R s m args below meth c H locs ls C hl hH hS)
theorem wp_iload_7 {x : Int32} {o0 : Option Value} {o1 : Option Value} {o2 : Option Value} {o3 : Option Value} {o4 : Option Value} {o5 : Option Value} {o6 : Option Value} (d : St y pc (.iload 7) 2 n) (k : WP κ r y n (o0 :: o1 :: o2 :: o3 :: o4 :: o5 :: o6 :: some (.int x) :: L) (.int x :: st) w ct Q) : WP κ r y pc (o0 :: o1 :: o2 :: o3 :: o4 :: o5 :: o6 :: some (.int x) :: L) st w ct Q := by
  obtain ⟨hd, rfl⟩ := d
  intro p e R s m args below meth c H locs ls C hl hH hS
  exact lv_iload C.1 C.2.1 hd (lvL_at hl (i := 7) rfl) (k p e R s m args below meth c H locs ls C hl hH hS)
theorem wp_iload_8 {x : Int32} {o0 : Option Value} {o1 : Option Value} {o2 : Option Value} {o3 : Option Value} {o4 : Option Value} {o5 : Option Value} {o6 : Option Value} {o7 : Option Value} (d : St y pc (.iload 8) 2 n) (k : WP κ r y n (o0 :: o1 :: o2 :: o3 :: o4 :: o5 :: o6 :: o7 :: some (.int x) :: L) (.int x :: st) w ct Q) : WP κ r y pc (o0 :: o1 :: o2 :: o3 :: o4 :: o5 :: o6 :: o7 :: some (.int x) :: L) st w ct Q := by
  obtain ⟨hd, rfl⟩ := d
  intro p e R s m args below meth c H locs ls C hl hH hS
  exact lv_iload C.1 C.2.1 hd (lvL_at hl (i := 8) rfl) (k p e R s m args below meth c H locs ls C hl hH hS)
theorem wp_iload_9 {x : Int32} {o0 : Option Value} {o1 : Option Value} {o2 : Option Value} {o3 : Option Value} {o4 : Option Value} {o5 : Option Value} {o6 : Option Value} {o7 : Option Value} {o8 : Option Value} (d : St y pc (.iload 9) 2 n) (k : WP κ r y n (o0 :: o1 :: o2 :: o3 :: o4 :: o5 :: o6 :: o7 :: o8 :: some (.int x) :: L) (.int x :: st) w ct Q) : WP κ r y pc (o0 :: o1 :: o2 :: o3 :: o4 :: o5 :: o6 :: o7 :: o8 :: some (.int x) :: L) st w ct Q := by
  obtain ⟨hd, rfl⟩ := d
  intro p e R s m args below meth c H locs ls C hl hH hS
  exact lv_iload C.1 C.2.1 hd (lvL_at hl (i := 9) rfl) (k p e R s m args below meth c H locs ls C hl hH hS)
theorem wp_lload_0 {x : Int64} (d : St y pc (.lload_n 0) 1 n) (k : WP κ r y n (some (.long x) :: L) (.long x :: st) w ct Q) : WP κ r y pc (some (.long x) :: L) st w ct Q := by
  obtain ⟨hd, rfl⟩ := d
  intro p e R s m args below meth c H locs ls C hl hH hS
  exact lv_lload_n C.1 C.2.1 hd rfl (lvL_at hl (i := 0) rfl) (k p e R s m args below meth c H locs ls C hl hH hS)
theorem wp_lload_1 {x : Int64} {o0 : Option Value} (d : St y pc (.lload_n 1) 1 n) (k : WP κ r y n (o0 :: some (.long x) :: L) (.long x :: st) w ct Q) : WP κ r y pc (o0 :: some (.long x) :: L) st w ct Q := by
  obtain ⟨hd, rfl⟩ := d
  intro p e R s m args below meth c H locs ls C hl hH hS
  exact lv_lload_n C.1 C.2.1 hd rfl (lvL_at hl (i := 1) rfl) (k p e R s m args below meth c H locs ls C hl hH hS)
theorem wp_lload_2 {x : Int64} {o0 : Option Value} {o1 : Option Value} (d : St y pc (.lload_n 2) 1 n) (k : WP κ r y n (o0 :: o1 :: some (.long x) :: L) (.long x :: st) w ct Q) : WP κ r y pc (o0 :: o1 :: some (.long x) :: L) st w ct Q := by
  obtain ⟨hd, rfl⟩ := d
  intro p e R s m args below meth c H locs ls C hl hH hS
  exact lv_lload_n C.1 C.2.1 hd rfl (lvL_at hl (i := 2) rfl) (k p e R s m args below meth c H locs ls C hl hH hS)
theorem wp_lload_3 {x : Int64} {o0 : Option Value} {o1 : Option Value} {o2 : Option Value} (d : St y pc (.lload_n 3) 1 n) (k : WP κ r y n (o0 :: o1 :: o2 :: some (.long x) :: L) (.long x :: st) w ct Q) : WP κ r y pc (o0 :: o1 :: o2 :: some (.long x) :: L) st w ct Q := by
  obtain ⟨hd, rfl⟩ := d
  intro p e R s m args below meth c H locs ls C hl hH hS
  exact lv_lload_n C.1 C.2.1 hd rfl (lvL_at hl (i := 3) rfl) (k p e R s m args below meth c H locs ls C hl hH hS)
theorem wp_lload_4 {x : Int64} {o0 : Option Value} {o1 : Option Value} {o2 : Option Value} {o3 : Option Value} (d : St y pc (.lload 4) 2 n) (k : WP κ r y n (o0 :: o1 :: o2 :: o3 :: some (.long x) :: L) (.long x :: st) w ct Q) : WP κ r y pc (o0 :: o1 :: o2 :: o3 :: some (.long x) :: L) st w ct Q := by
  obtain ⟨hd, rfl⟩ := d
  intro p e R s m args below meth c H locs ls C hl hH hS
  exact lv_lload C.1 C.2.1 hd (lvL_at hl (i := 4) rfl) (k p e R s m args below meth c H locs ls C hl hH hS)
theorem wp_lload_5 {x : Int64} {o0 : Option Value} {o1 : Option Value} {o2 : Option Value} {o3 : Option Value} {o4 : Option Value} (d : St y pc (.lload 5) 2 n) (k : WP κ r y n (o0 :: o1 :: o2 :: o3 :: o4 :: some (.long x) :: L) (.long x :: st) w ct Q) : WP κ r y pc (o0 :: o1 :: o2 :: o3 :: o4 :: some (.long x) :: L) st w ct Q := by
  obtain ⟨hd, rfl⟩ := d
  intro p e R s m args below meth c H locs ls C hl hH hS
  exact lv_lload C.1 C.2.1 hd (lvL_at hl (i := 5) rfl) (k p e R s m args below meth c H locs ls C hl hH hS)
theorem wp_lload_6 {x : Int64} {o0 : Option Value} {o1 : Option Value} {o2 : Option Value} {o3 : Option Value} {o4 : Option Value} {o5 : Option Value} (d : St y pc (.lload 6) 2 n) (k : WP κ r y n (o0 :: o1 :: o2 :: o3 :: o4 :: o5 :: some (.long x) :: L) (.long x :: st) w ct Q) : WP κ r y pc (o0 :: o1 :: o2 :: o3 :: o4 :: o5 :: some (.long x) :: L) st w ct Q := by
  obtain ⟨hd, rfl⟩ := d
  intro p e R s m args below meth c H locs ls C hl hH hS
  exact lv_lload C.1 C.2.1 hd (lvL_at hl (i := 6) rfl) (k p e R s m args below meth c H locs ls C hl hH hS)
theorem wp_lload_7 {x : Int64} {o0 : Option Value} {o1 : Option Value} {o2 : Option Value} {o3 : Option Value} {o4 : Option Value} {o5 : Option Value} {o6 : Option Value} (d : St y pc (.lload 7) 2 n) (k : WP κ r y n (o0 :: o1 :: o2 :: o3 :: o4 :: o5 :: o6 :: some (.long x) :: L) (.long x :: st) w ct Q) : WP κ r y pc (o0 :: o1 :: o2 :: o3 :: o4 :: o5 :: o6 :: some (.long x) :: L) st w ct Q := by
  obtain ⟨hd, rfl⟩ := d
  intro p e R s m args below meth c H locs ls C hl hH hS
  exact lv_lload C.1 C.2.1 hd (lvL_at hl (i := 7) rfl) (k p e R s m args below meth c H locs ls C hl hH hS)
theorem wp_lload_8 {x : Int64} {o0 : Option Value} {o1 : Option Value} {o2 : Option Value} {o3 : Option Value} {o4 : Option Value} {o5 : Option Value} {o6 : Option Value} {o7 : Option Value} (d : St y pc (.lload 8) 2 n) (k : WP κ r y n (o0 :: o1 :: o2 :: o3 :: o4 :: o5 :: o6 :: o7 :: some (.long x) :: L) (.long x :: st) w ct Q) : WP κ r y pc (o0 :: o1 :: o2 :: o3 :: o4 :: o5 :: o6 :: o7 :: some (.long x) :: L) st w ct Q := by
  obtain ⟨hd, rfl⟩ := d
  intro p e R s m args below meth c H locs ls C hl hH hS
  exact lv_lload C.1 C.2.1 hd (lvL_at hl (i := 8) rfl) (k p e R s m args below meth c H locs ls C hl hH hS)
theorem wp_lload_9 {x : Int64} {o0 : Option Value} {o1 : Option Value} {o2 : Option Value} {o3 : Option Value} {o4 : Option Value} {o5 : Option Value} {o6 : Option Value} {o7 : Option Value} {o8 : Option Value} (d : St y pc (.lload 9) 2 n) (k : WP κ r y n (o0 :: o1 :: o2 :: o3 :: o4 :: o5 :: o6 :: o7 :: o8 :: some (.long x) :: L) (.long x :: st) w ct Q) : WP κ r y pc (o0 :: o1 :: o2 :: o3 :: o4 :: o5 :: o6 :: o7 :: o8 :: some (.long x) :: L) st w ct Q := by
  obtain ⟨hd, rfl⟩ := d
  intro p e R s m args below meth c H locs ls C hl hH hS
  exact lv_lload C.1 C.2.1 hd (lvL_at hl (i := 9) rfl) (k p e R s m args below meth c H locs ls C hl hH hS)
theorem wp_aload_0 {x : Nat} (d : St y pc (.aload_n 0) 1 n) (k : WP κ r y n (some (.ref x) :: L) (.ref x :: st) w ct Q) : WP κ r y pc (some (.ref x) :: L) st w ct Q := by
  obtain ⟨hd, rfl⟩ := d
  intro p e R s m args below meth c H locs ls C hl hH hS
  exact lv_aload_n C.1 C.2.1 hd rfl (lvL_at hl (i := 0) rfl) (k p e R s m args below meth c H locs ls C hl hH hS)
theorem wp_aload_1 {x : Nat} {o0 : Option Value} (d : St y pc (.aload_n 1) 1 n) (k : WP κ r y n (o0 :: some (.ref x) :: L) (.ref x :: st) w ct Q) : WP κ r y pc (o0 :: some (.ref x) :: L) st w ct Q := by
  obtain ⟨hd, rfl⟩ := d
  intro p e R s m args below meth c H locs ls C hl hH hS
  exact lv_aload_n C.1 C.2.1 hd rfl (lvL_at hl (i := 1) rfl) (k p e R s m args below meth c H locs ls C hl hH hS)
theorem wp_aload_2 {x : Nat} {o0 : Option Value} {o1 : Option Value} (d : St y pc (.aload_n 2) 1 n) (k : WP κ r y n (o0 :: o1 :: some (.ref x) :: L) (.ref x :: st) w ct Q) : WP κ r y pc (o0 :: o1 :: some (.ref x) :: L) st w ct Q := by
  obtain ⟨hd, rfl⟩ := d
  intro p e R s m args below meth c H locs ls C hl hH hS
  exact lv_aload_n C.1 C.2.1 hd rfl (lvL_at hl (i := 2) rfl) (k p e R s m args below meth c H locs ls C hl hH hS)
theorem wp_aload_3 {x : Nat} {o0 : Option Value} {o1 : Option Value} {o2 : Option Value} (d : St y pc (.aload_n 3) 1 n) (k : WP κ r y n (o0 :: o1 :: o2 :: some (.ref x) :: L) (.ref x :: st) w ct Q) : WP κ r y pc (o0 :: o1 :: o2 :: some (.ref x) :: L) st w ct Q := by
  obtain ⟨hd, rfl⟩ := d
  intro p e R s m args below meth c H locs ls C hl hH hS
  exact lv_aload_n C.1 C.2.1 hd rfl (lvL_at hl (i := 3) rfl) (k p e R s m args below meth c H locs ls C hl hH hS)
theorem wp_aload_4 {x : Nat} {o0 : Option Value} {o1 : Option Value} {o2 : Option Value} {o3 : Option Value} (d : St y pc (.aload 4) 2 n) (k : WP κ r y n (o0 :: o1 :: o2 :: o3 :: some (.ref x) :: L) (.ref x :: st) w ct Q) : WP κ r y pc (o0 :: o1 :: o2 :: o3 :: some (.ref x) :: L) st w ct Q := by
  obtain ⟨hd, rfl⟩ := d
  intro p e R s m args below meth c H locs ls C hl hH hS
  exact lv_aload C.1 C.2.1 hd (lvL_at hl (i := 4) rfl) (k p e R s m args below meth c H locs ls C hl hH hS)
theorem wp_aload_5 {x : Nat} {o0 : Option Value} {o1 : Option Value} {o2 : Option Value} {o3 : Option Value} {o4 : Option Value} (d : St y pc (.aload 5) 2 n) (k : WP κ r y n (o0 :: o1 :: o2 :: o3 :: o4 :: some (.ref x) :: L) (.ref x :: st) w ct Q) : WP κ r y pc (o0 :: o1 :: o2 :: o3 :: o4 :: some (.ref x) :: L) st w ct Q := by
  obtain ⟨hd, rfl⟩ := d
  intro p e R s m args below meth c H locs ls C hl hH hS
  exact lv_aload C.1 C.2.1 hd (lvL_at hl (i := 5) rfl) (k p e R s m args below meth c H locs ls C hl hH hS)
theorem wp_aload_6 {x : Nat} {o0 : Option Value} {o1 : Option Value} {o2 : Option Value} {o3 : Option Value} {o4 : Option Value} {o5 : Option Value} (d : St y pc (.aload 6) 2 n) (k : WP κ r y n (o0 :: o1 :: o2 :: o3 :: o4 :: o5 :: some (.ref x) :: L) (.ref x :: st) w ct Q) : WP κ r y pc (o0 :: o1 :: o2 :: o3 :: o4 :: o5 :: some (.ref x) :: L) st w ct Q := by
  obtain ⟨hd, rfl⟩ := d
  intro p e R s m args below meth c H locs ls C hl hH hS
  exact lv_aload C.1 C.2.1 hd (lvL_at hl (i := 6) rfl) (k p e R s m args below meth c H locs ls C hl hH hS)
theorem wp_aload_7 {x : Nat} {o0 : Option Value} {o1 : Option Value} {o2 : Option Value} {o3 : Option Value} {o4 : Option Value} {o5 : Option Value} {o6 : Option Value} (d : St y pc (.aload 7) 2 n) (k : WP κ r y n (o0 :: o1 :: o2 :: o3 :: o4 :: o5 :: o6 :: some (.ref x) :: L) (.ref x :: st) w ct Q) : WP κ r y pc (o0 :: o1 :: o2 :: o3 :: o4 :: o5 :: o6 :: some (.ref x) :: L) st w ct Q := by
  obtain ⟨hd, rfl⟩ := d
  intro p e R s m args below meth c H locs ls C hl hH hS
  exact lv_aload C.1 C.2.1 hd (lvL_at hl (i := 7) rfl) (k p e R s m args below meth c H locs ls C hl hH hS)
theorem wp_aload_8 {x : Nat} {o0 : Option Value} {o1 : Option Value} {o2 : Option Value} {o3 : Option Value} {o4 : Option Value} {o5 : Option Value} {o6 : Option Value} {o7 : Option Value} (d : St y pc (.aload 8) 2 n) (k : WP κ r y n (o0 :: o1 :: o2 :: o3 :: o4 :: o5 :: o6 :: o7 :: some (.ref x) :: L) (.ref x :: st) w ct Q) : WP κ r y pc (o0 :: o1 :: o2 :: o3 :: o4 :: o5 :: o6 :: o7 :: some (.ref x) :: L) st w ct Q := by
  obtain ⟨hd, rfl⟩ := d
  intro p e R s m args below meth c H locs ls C hl hH hS
  exact lv_aload C.1 C.2.1 hd (lvL_at hl (i := 8) rfl) (k p e R s m args below meth c H locs ls C hl hH hS)
theorem wp_aload_9 {x : Nat} {o0 : Option Value} {o1 : Option Value} {o2 : Option Value} {o3 : Option Value} {o4 : Option Value} {o5 : Option Value} {o6 : Option Value} {o7 : Option Value} {o8 : Option Value} (d : St y pc (.aload 9) 2 n) (k : WP κ r y n (o0 :: o1 :: o2 :: o3 :: o4 :: o5 :: o6 :: o7 :: o8 :: some (.ref x) :: L) (.ref x :: st) w ct Q) : WP κ r y pc (o0 :: o1 :: o2 :: o3 :: o4 :: o5 :: o6 :: o7 :: o8 :: some (.ref x) :: L) st w ct Q := by
  obtain ⟨hd, rfl⟩ := d
  intro p e R s m args below meth c H locs ls C hl hH hS
  exact lv_aload C.1 C.2.1 hd (lvL_at hl (i := 9) rfl) (k p e R s m args below meth c H locs ls C hl hH hS)
theorem wp_istore_0 {x : Int32} {oo : Option Value} (d : St y pc (.istore_n 0) 1 n) (hi : 0 < y.2.2.1) (k : WP κ r y n (some (.int x) :: L) st w ct Q) : WP κ r y pc (oo :: L) (.int x :: st) w ct Q := by
  obtain ⟨hd, rfl⟩ := d
  intro p e R s m args below meth c H locs ls C hl hH hS
  exact lv_istore_n (i := 0) C.1 C.2.1 hd rfl hl hi rfl (fun ls' hl' => k p e R s m args below meth c H locs ls' C (lvL_set (L := oo :: L) (i := 0) hl' (fun u h1 h2 => absurd h1 (by omega)) (by simp)) hH hS)
theorem wp_istore_1 {x : Int32} {oo : Option Value} {o0 : Option Value} (d : St y pc (.istore_n 1) 1 n) (hi : 1 < y.2.2.1) (hc : lcat o0 = true) (k : WP κ r y n (o0 :: some (.int x) :: L) st w ct Q) : WP κ r y pc (o0 :: oo :: L) (.int x :: st) w ct Q := by
  obtain ⟨hd, rfl⟩ := d
  intro p e R s m args below meth c H locs ls C hl hH hS
  exact lv_istore_n (i := 1) C.1 C.2.1 hd rfl hl hi rfl (fun ls' hl' => k p e R s m args below meth c H locs ls' C (lvL_set (L := o0 :: oo :: L) (i := 1) hl' (fun u h1 h2 => lcat_of hc (by simpa using h2)) (by simp)) hH hS)
theorem wp_istore_2 {x : Int32} {oo : Option Value} {o0 : Option Value} {o1 : Option Value} (d : St y pc (.istore_n 2) 1 n) (hi : 2 < y.2.2.1) (hc : lcat o1 = true) (k : WP κ r y n (o0 :: o1 :: some (.int x) :: L) st w ct Q) : WP κ r y pc (o0 :: o1 :: oo :: L) (.int x :: st) w ct Q := by
  obtain ⟨hd, rfl⟩ := d
  intro p e R s m args below meth c H locs ls C hl hH hS
  exact lv_istore_n (i := 2) C.1 C.2.1 hd rfl hl hi rfl (fun ls' hl' => k p e R s m args below meth c H locs ls' C (lvL_set (L := o0 :: o1 :: oo :: L) (i := 2) hl' (fun u h1 h2 => lcat_of hc (by simpa using h2)) (by simp)) hH hS)
theorem wp_istore_3 {x : Int32} {oo : Option Value} {o0 : Option Value} {o1 : Option Value} {o2 : Option Value} (d : St y pc (.istore_n 3) 1 n) (hi : 3 < y.2.2.1) (hc : lcat o2 = true) (k : WP κ r y n (o0 :: o1 :: o2 :: some (.int x) :: L) st w ct Q) : WP κ r y pc (o0 :: o1 :: o2 :: oo :: L) (.int x :: st) w ct Q := by
  obtain ⟨hd, rfl⟩ := d
  intro p e R s m args below meth c H locs ls C hl hH hS
  exact lv_istore_n (i := 3) C.1 C.2.1 hd rfl hl hi rfl (fun ls' hl' => k p e R s m args below meth c H locs ls' C (lvL_set (L := o0 :: o1 :: o2 :: oo :: L) (i := 3) hl' (fun u h1 h2 => lcat_of hc (by simpa using h2)) (by simp)) hH hS)
theorem wp_istore_4 {x : Int32} {oo : Option Value} {o0 : Option Value} {o1 : Option Value} {o2 : Option Value} {o3 : Option Value} (d : St y pc (.istore 4) 2 n) (hi : 4 < y.2.2.1) (hc : lcat o3 = true) (k : WP κ r y n (o0 :: o1 :: o2 :: o3 :: some (.int x) :: L) st w ct Q) : WP κ r y pc (o0 :: o1 :: o2 :: o3 :: oo :: L) (.int x :: st) w ct Q := by
  obtain ⟨hd, rfl⟩ := d
  intro p e R s m args below meth c H locs ls C hl hH hS
  exact lv_istore (i := 4) C.1 C.2.1 hd hl hi rfl (fun ls' hl' => k p e R s m args below meth c H locs ls' C (lvL_set (L := o0 :: o1 :: o2 :: o3 :: oo :: L) (i := 4) hl' (fun u h1 h2 => lcat_of hc (by simpa using h2)) (by simp)) hH hS)
theorem wp_istore_5 {x : Int32} {oo : Option Value} {o0 : Option Value} {o1 : Option Value} {o2 : Option Value} {o3 : Option Value} {o4 : Option Value} (d : St y pc (.istore 5) 2 n) (hi : 5 < y.2.2.1) (hc : lcat o4 = true) (k : WP κ r y n (o0 :: o1 :: o2 :: o3 :: o4 :: some (.int x) :: L) st w ct Q) : WP κ r y pc (o0 :: o1 :: o2 :: o3 :: o4 :: oo :: L) (.int x :: st) w ct Q := by
  obtain ⟨hd, rfl⟩ := d
  intro p e R s m args below meth c H locs ls C hl hH hS
  exact lv_istore (i := 5) C.1 C.2.1 hd hl hi rfl (fun ls' hl' => k p e R s m args below meth c H locs ls' C (lvL_set (L := o0 :: o1 :: o2 :: o3 :: o4 :: oo :: L) (i := 5) hl' (fun u h1 h2 => lcat_of hc (by simpa using h2)) (by simp)) hH hS)
theorem wp_istore_6 {x : Int32} {oo : Option Value} {o0 : Option Value} {o1 : Option Value} {o2 : Option Value} {o3 : Option Value} {o4 : Option Value} {o5 : Option Value} (d : St y pc (.istore 6) 2 n) (hi : 6 < y.2.2.1) (hc : lcat o5 = true) (k : WP κ r y n (o0 :: o1 :: o2 :: o3 :: o4 :: o5 :: some (.int x) :: L) st w ct Q) : WP κ r y pc (o0 :: o1 :: o2 :: o3 :: o4 :: o5 :: oo :: L) (.int x :: st) w ct Q := by
  obtain ⟨hd, rfl⟩ := d
  intro p e R s m args below meth c H locs ls C hl hH hS
  exact lv_istore (i := 6) C.1 C.2.1 hd hl hi rfl (fun ls' hl' => k p e R s m args below meth c H locs ls' C (lvL_set (L := o0 :: o1 :: o2 :: o3 :: o4 :: o5 :: oo :: L) (i := 6) hl' (fun u h1 h2 => lcat_of hc (by simpa using h2)) (by simp)) hH hS)
theorem wp_istore_7 {x : Int32} {oo : Option Value} {o0 : Option Value} {o1 : Option Value} {o2 : Option Value} {o3 : Option Value} {o4 : Option Value} {o5 : Option Value} {o6 : Option Value} (d : St y pc (.istore 7) 2 n) (hi : 7 < y.2.2.1) (hc : lcat o6 = true) (k : WP κ r y n (o0 :: o1 :: o2 :: o3 :: o4 :: o5 :: o6 :: some (.int x) :: L) st w ct Q) : WP κ r y pc (o0 :: o1 :: o2 :: o3 :: o4 :: o5 :: o6 :: oo :: L) (.int x :: st) w ct Q := by
  obtain ⟨hd, rfl⟩ := d
  intro p e R s m args below meth c H locs ls C hl hH hS
  exact lv_istore (i := 7) C.1 C.2.1 hd hl hi rfl (fun ls' hl' => k p e R s m args below meth c H locs ls' C (lvL_set (L := o0 :: o1 :: o2 :: o3 :: o4 :: o5 :: o6 :: oo :: L) (i := 7) hl' (fun u h1 h2 => lcat_of hc (by simpa using h2)) (by simp)) hH hS)
theorem wp_istore_8 {x : Int32} {oo : Option Value} {o0 : Option Value} {o1 : Option Value} {o2 : Option Value} {o3 : Option Value} {o4 : Option Value} {o5 : Option Value} {o6 : Option Value} {o7 : Option Value} (d : St y pc (.istore 8) 2 n) (hi : 8 < y.2.2.1) (hc : lcat o7 = true) (k : WP κ r y n (o0 :: o1 :: o2 :: o3 :: o4 :: o5 :: o6 :: o7 :: some (.int x) :: L) st w ct Q) : WP κ r y pc (o0 :: o1 :: o2 :: o3 :: o4 :: o5 :: o6 :: o7 :: oo :: L) (.int x :: st) w ct Q := by
  obtain ⟨hd, rfl⟩ := d
  intro p e R s m args below meth c H locs ls C hl hH hS
  exact lv_istore (i := 8) C.1 C.2.1 hd hl hi rfl (fun ls' hl' => k p e R s m args below meth c H locs ls' C (lvL_set (L := o0 :: o1 :: o2 :: o3 :: o4 :: o5 :: o6 :: o7 :: oo :: L) (i := 8) hl' (fun u h1 h2 => lcat_of hc (by simpa using h2)) (by simp)) hH hS)
theorem wp_istore_9 {x : Int32} {oo : Option Value} {o0 : Option Value} {o1 : Option Value} {o2 : Option Value} {o3 : Option Value} {o4 : Option Value} {o5 : Option Value} {o6 : Option Value} {o7 : Option Value} {o8 : Option Value} (d : St y pc (.istore 9) 2 n) (hi : 9 < y.2.2.1) (hc : lcat o8 = true) (k : WP κ r y n (o0 :: o1 :: o2 :: o3 :: o4 :: o5 :: o6 :: o7 :: o8 :: some (.int x) :: L) st w ct Q) : WP κ r y pc (o0 :: o1 :: o2 :: o3 :: o4 :: o5 :: o6 :: o7 :: o8 :: oo :: L) (.int x :: st) w ct Q := by
  obtain ⟨hd, rfl⟩ := d
  intro p e R s m args below meth c H locs ls C hl hH hS
  exact lv_istore (i := 9) C.1 C.2.1 hd hl hi rfl (fun ls' hl' => k p e R s m args below meth c H locs ls' C (lvL_set (L := o0 :: o1 :: o2 :: o3 :: o4 :: o5 :: o6 :: o7 :: o8 :: oo :: L) (i := 9) hl' (fun u h1 h2 => lcat_of hc (by simpa using h2)) (by simp)) hH hS)
theorem wp_astore_0 {x : Nat} {oo : Option Value} (d : St y pc (.astore_n 0) 1 n) (hi : 0 < y.2.2.1) (k : WP κ r y n (some (.ref x) :: L) st w ct Q) : WP κ r y pc (oo :: L) (.ref x :: st) w ct Q := by
  obtain ⟨hd, rfl⟩ := d
  intro p e R s m args below meth c H locs ls C hl hH hS
  exact lv_astore_n (i := 0) C.1 C.2.1 hd rfl hl hi rfl (fun ls' hl' => k p e R s m args below meth c H locs ls' C (lvL_set (L := oo :: L) (i := 0) hl' (fun u h1 h2 => absurd h1 (by omega)) (by simp)) hH hS)
theorem wp_astore_1 {x : Nat} {oo : Option Value} {o0 : Option Value} (d : St y pc (.astore_n 1) 1 n) (hi : 1 < y.2.2.1) (hc : lcat o0 = true) (k : WP κ r y n (o0 :: some (.ref x) :: L) st w ct Q) : WP κ r y pc (o0 :: oo :: L) (.ref x :: st) w ct Q := by
  obtain ⟨hd, rfl⟩ := d
  intro p e R s m args below meth c H locs ls C hl hH hS
  exact lv_astore_n (i := 1) C.1 C.2.1 hd rfl hl hi rfl (fun ls' hl' => k p e R s m args below meth c H locs ls' C (lvL_set (L := o0 :: oo :: L) (i := 1) hl' (fun u h1 h2 => lcat_of hc (by simpa using h2)) (by simp)) hH hS)
theorem wp_astore_2 {x : Nat} {oo : Option Value} {o0 : Option Value} {o1 : Option Value} (d : St y pc (.astore_n 2) 1 n) (hi : 2 < y.2.2.1) (hc : lcat o1 = true) (k : WP κ r y n (o0 :: o1 :: some (.ref x) :: L) st w ct Q) : WP κ r y pc (o0 :: o1 :: oo :: L) (.ref x :: st) w ct Q := by
  obtain ⟨hd, rfl⟩ := d
  intro p e R s m args below meth c H locs ls C hl hH hS
  exact lv_astore_n (i := 2) C.1 C.2.1 hd rfl hl hi rfl (fun ls' hl' => k p e R s m args below meth c H locs ls' C (lvL_set (L := o0 :: o1 :: oo :: L) (i := 2) hl' (fun u h1 h2 => lcat_of hc (by simpa using h2)) (by simp)) hH hS)
theorem wp_astore_3 {x : Nat} {oo : Option Value} {o0 : Option Value} {o1 : Option Value} {o2 : Option Value} (d : St y pc (.astore_n 3) 1 n) (hi : 3 < y.2.2.1) (hc : lcat o2 = true) (k : WP κ r y n (o0 :: o1 :: o2 :: some (.ref x) :: L) st w ct Q) : WP κ r y pc (o0 :: o1 :: o2 :: oo :: L) (.ref x :: st) w ct Q := by
  obtain ⟨hd, rfl⟩ := d
  intro p e R s m args below meth c H locs ls C hl hH hS
  exact lv_astore_n (i := 3) C.1 C.2.1 hd rfl hl hi rfl (fun ls' hl' => k p e R s m args below meth c H locs ls' C (lvL_set (L := o0 :: o1 :: o2 :: oo :: L) (i := 3) hl' (fun u h1 h2 => lcat_of hc (by simpa using h2)) (by simp)) hH hS)
theorem wp_astore_4 {x : Nat} {oo : Option Value} {o0 : Option Value} {o1 : Option Value} {o2 : Option Value} {o3 : Option Value} (d : St y pc (.astore 4) 2 n) (hi : 4 < y.2.2.1) (hc : lcat o3 = true) (k : WP κ r y n (o0 :: o1 :: o2 :: o3 :: some (.ref x) :: L) st w ct Q) : WP κ r y pc (o0 :: o1 :: o2 :: o3 :: oo :: L) (.ref x :: st) w ct Q := by
  obtain ⟨hd, rfl⟩ := d
  intro p e R s m args below meth c H locs ls C hl hH hS
  exact lv_astore (i := 4) C.1 C.2.1 hd hl hi rfl (fun ls' hl' => k p e R s m args below meth c H locs ls' C (lvL_set (L := o0 :: o1 :: o2 :: o3 :: oo :: L) (i := 4) hl' (fun u h1 h2 => lcat_of hc (by simpa using h2)) (by simp)) hH hS)
theorem wp_astore_5 {x : Nat} {oo : Option Value} {o0 : Option Value} {o1 : Option Value} {o2 : Option Value} {o3 : Option Value} {o4 : Option Value} (d : St y pc (.astore 5) 2 n) (hi : 5 < y.2.2.1) (hc : lcat o4 = true) (k : WP κ r y n (o0 :: o1 :: o2 :: o3 :: o4 :: some (.ref x) :: L) st w ct Q) : WP κ r y pc (o0 :: o1 :: o2 :: o3 :: o4 :: oo :: L) (.ref x :: st) w ct Q := by
  obtain ⟨hd, rfl⟩ := d
  intro p e R s m args below meth c H locs ls C hl hH hS
  exact lv_astore (i := 5) C.1 C.2.1 hd hl hi rfl (fun ls' hl' => k p e R s m args below meth c H locs ls' C (lvL_set (L := o0 :: o1 :: o2 :: o3 :: o4 :: oo :: L) (i := 5) hl' (fun u h1 h2 => lcat_of hc (by simpa using h2)) (by simp)) hH hS)
theorem wp_astore_6 {x : Nat} {oo : Option Value} {o0 : Option Value} {o1 : Option Value} {o2 : Option Value} {o3 : Option Value} {o4 : Option Value} {o5 : Option Value} (d : St y pc (.astore 6) 2 n) (hi : 6 < y.2.2.1) (hc : lcat o5 = true) (k : WP κ r y n (o0 :: o1 :: o2 :: o3 :: o4 :: o5 :: some (.ref x) :: L) st w ct Q) : WP κ r y pc (o0 :: o1 :: o2 :: o3 :: o4 :: o5 :: oo :: L) (.ref x :: st) w ct Q := by
  obtain ⟨hd, rfl⟩ := d
  intro p e R s m args below meth c H locs ls C hl hH hS
  exact lv_astore (i := 6) C.1 C.2.1 hd hl hi rfl (fun ls' hl' => k p e R s m args below meth c H locs ls' C (lvL_set (L := o0 :: o1 :: o2 :: o3 :: o4 :: o5 :: oo :: L) (i := 6) hl' (fun u h1 h2 => lcat_of hc (by simpa using h2)) (by simp)) hH hS)
theorem wp_astore_7 {x : Nat} {oo : Option Value} {o0 : Option Value} {o1 : Option Value} {o2 : Option Value} {o3 : Option Value} {o4 : Option Value} {o5 : Option Value} {o6 : Option Value} (d : St y pc (.astore 7) 2 n) (hi : 7 < y.2.2.1) (hc : lcat o6 = true) (k : WP κ r y n (o0 :: o1 :: o2 :: o3 :: o4 :: o5 :: o6 :: some (.ref x) :: L) st w ct Q) : WP κ r y pc (o0 :: o1 :: o2 :: o3 :: o4 :: o5 :: o6 :: oo :: L) (.ref x :: st) w ct Q := by
  obtain ⟨hd, rfl⟩ := d
  intro p e R s m args below meth c H locs ls C hl hH hS
  exact lv_astore (i := 7) C.1 C.2.1 hd hl hi rfl (fun ls' hl' => k p e R s m args below meth c H locs ls' C (lvL_set (L := o0 :: o1 :: o2 :: o3 :: o4 :: o5 :: o6 :: oo :: L) (i := 7) hl' (fun u h1 h2 => lcat_of hc (by simpa using h2)) (by simp)) hH hS)
theorem wp_astore_8 {x : Nat} {oo : Option Value} {o0 : Option Value} {o1 : Option Value} {o2 : Option Value} {o3 : Option Value} {o4 : Option Value} {o5 : Option Value} {o6 : Option Value} {o7 : Option Value} (d : St y pc (.astore 8) 2 n) (hi : 8 < y.2.2.1) (hc : lcat o7 = true) (k : WP κ r y n (o0 :: o1 :: o2 :: o3 :: o4 :: o5 :: o6 :: o7 :: some (.ref x) :: L) st w ct Q) : WP κ r y pc (o0 :: o1 :: o2 :: o3 :: o4 :: o5 :: o6 :: o7 :: oo :: L) (.ref x :: st) w ct Q := by
  obtain ⟨hd, rfl⟩ := d
  intro p e R s m args below meth c H locs ls C hl hH hS
  exact lv_astore (i := 8) C.1 C.2.1 hd hl hi rfl (fun ls' hl' => k p e R s m args below meth c H locs ls' C (lvL_set (L := o0 :: o1 :: o2 :: o3 :: o4 :: o5 :: o6 :: o7 :: oo :: L) (i := 8) hl' (fun u h1 h2 => lcat_of hc (by simpa using h2)) (by simp)) hH hS)
theorem wp_astore_9 {x : Nat} {oo : Option Value} {o0 : Option Value} {o1 : Option Value} {o2 : Option Value} {o3 : Option Value} {o4 : Option Value} {o5 : Option Value} {o6 : Option Value} {o7 : Option Value} {o8 : Option Value} (d : St y pc (.astore 9) 2 n) (hi : 9 < y.2.2.1) (hc : lcat o8 = true) (k : WP κ r y n (o0 :: o1 :: o2 :: o3 :: o4 :: o5 :: o6 :: o7 :: o8 :: some (.ref x) :: L) st w ct Q) : WP κ r y pc (o0 :: o1 :: o2 :: o3 :: o4 :: o5 :: o6 :: o7 :: o8 :: oo :: L) (.ref x :: st) w ct Q := by
  obtain ⟨hd, rfl⟩ := d
  intro p e R s m args below meth c H locs ls C hl hH hS
  exact lv_astore (i := 9) C.1 C.2.1 hd hl hi rfl (fun ls' hl' => k p e R s m args below meth c H locs ls' C (lvL_set (L := o0 :: o1 :: o2 :: o3 :: o4 :: o5 :: o6 :: o7 :: o8 :: oo :: L) (i := 9) hl' (fun u h1 h2 => lcat_of hc (by simpa using h2)) (by simp)) hH hS)
theorem wp_iinc_0 {x v : Int32} {j : Int} (d : St y pc (.iinc 0 j) 3 n) (hv : x + Int32.ofInt j = v) (hi : 0 < y.2.2.1) (k : WP κ r y n (some (.int v) :: L) st w ct Q) : WP κ r y pc (some (.int x) :: L) st w ct Q := by
  obtain ⟨hd, rfl⟩ := d
  intro p e R s m args below meth c H locs ls C hl hH hS
  obtain ⟨q, hq⟩ := List.getElem?_of_mem (lvA_mem (L := some (.int x) :: L) (i := 0) (v := .int x) rfl)
  exact lv_iinc (i := 0) (k := q) C.1 C.2.1 hd hl hq hv hi rfl (fun ls' hl' => k p e R s m args below meth c H locs ls' C (lvL_set (L := some (.int x) :: L) (i := 0) hl' (fun u h1 h2 => absurd h1 (by omega)) (by simp)) hH hS)
theorem wp_iinc_1 {x v : Int32} {j : Int} {o0 : Option Value} (d : St y pc (.iinc 1 j) 3 n) (hv : x + Int32.ofInt j = v) (hi : 1 < y.2.2.1) (hc : lcat o0 = true) (k : WP κ r y n (o0 :: some (.int v) :: L) st w ct Q) : WP κ r y pc (o0 :: some (.int x) :: L) st w ct Q := by
  obtain ⟨hd, rfl⟩ := d
  intro p e R s m args below meth c H locs ls C hl hH hS
  obtain ⟨q, hq⟩ := List.getElem?_of_mem (lvA_mem (L := o0 :: some (.int x) :: L) (i := 1) (v := .int x) rfl)
  exact lv_iinc (i := 1) (k := q) C.1 C.2.1 hd hl hq hv hi rfl (fun ls' hl' => k p e R s m args below meth c H locs ls' C (lvL_set (L := o0 :: some (.int x) :: L) (i := 1) hl' (fun u h1 h2 => lcat_of hc (by simpa using h2)) (by simp)) hH hS)
theorem wp_iinc_2 {x v : Int32} {j : Int} {o0 : Option Value} {o1 : Option Value} (d : St y pc (.iinc 2 j) 3 n) (hv : x + Int32.ofInt j = v) (hi : 2 < y.2.2.1) (hc : lcat o1 = true) (k : WP κ r y n (o0 :: o1 :: some (.int v) :: L) st w ct Q) : WP κ r y pc (o0 :: o1 :: some (.int x) :: L) st w ct Q := by
  obtain ⟨hd, rfl⟩ := d
  intro p e R s m args below meth c H locs ls C hl hH hS
  obtain ⟨q, hq⟩ := List.getElem?_of_mem (lvA_mem (L := o0 :: o1 :: some (.int x) :: L) (i := 2) (v := .int x) rfl)
  exact lv_iinc (i := 2) (k := q) C.1 C.2.1 hd hl hq hv hi rfl (fun ls' hl' => k p e R s m args below meth c H locs ls' C (lvL_set (L := o0 :: o1 :: some (.int x) :: L) (i := 2) hl' (fun u h1 h2 => lcat_of hc (by simpa using h2)) (by simp)) hH hS)
theorem wp_iinc_3 {x v : Int32} {j : Int} {o0 : Option Value} {o1 : Option Value} {o2 : Option Value} (d : St y pc (.iinc 3 j) 3 n) (hv : x + Int32.ofInt j = v) (hi : 3 < y.2.2.1) (hc : lcat o2 = true) (k : WP κ r y n (o0 :: o1 :: o2 :: some (.int v) :: L) st w ct Q) : WP κ r y pc (o0 :: o1 :: o2 :: some (.int x) :: L) st w ct Q := by
  obtain ⟨hd, rfl⟩ := d
  intro p e R s m args below meth c H locs ls C hl hH hS
  obtain ⟨q, hq⟩ := List.getElem?_of_mem (lvA_mem (L := o0 :: o1 :: o2 :: some (.int x) :: L) (i := 3) (v := .int x) rfl)
  exact lv_iinc (i := 3) (k := q) C.1 C.2.1 hd hl hq hv hi rfl (fun ls' hl' => k p e R s m args below meth c H locs ls' C (lvL_set (L := o0 :: o1 :: o2 :: some (.int x) :: L) (i := 3) hl' (fun u h1 h2 => lcat_of hc (by simpa using h2)) (by simp)) hH hS)
theorem wp_iinc_4 {x v : Int32} {j : Int} {o0 : Option Value} {o1 : Option Value} {o2 : Option Value} {o3 : Option Value} (d : St y pc (.iinc 4 j) 3 n) (hv : x + Int32.ofInt j = v) (hi : 4 < y.2.2.1) (hc : lcat o3 = true) (k : WP κ r y n (o0 :: o1 :: o2 :: o3 :: some (.int v) :: L) st w ct Q) : WP κ r y pc (o0 :: o1 :: o2 :: o3 :: some (.int x) :: L) st w ct Q := by
  obtain ⟨hd, rfl⟩ := d
  intro p e R s m args below meth c H locs ls C hl hH hS
  obtain ⟨q, hq⟩ := List.getElem?_of_mem (lvA_mem (L := o0 :: o1 :: o2 :: o3 :: some (.int x) :: L) (i := 4) (v := .int x) rfl)
  exact lv_iinc (i := 4) (k := q) C.1 C.2.1 hd hl hq hv hi rfl (fun ls' hl' => k p e R s m args below meth c H locs ls' C (lvL_set (L := o0 :: o1 :: o2 :: o3 :: some (.int x) :: L) (i := 4) hl' (fun u h1 h2 => lcat_of hc (by simpa using h2)) (by simp)) hH hS)
theorem wp_iinc_5 {x v : Int32} {j : Int} {o0 : Option Value} {o1 : Option Value} {o2 : Option Value} {o3 : Option Value} {o4 : Option Value} (d : St y pc (.iinc 5 j) 3 n) (hv : x + Int32.ofInt j = v) (hi : 5 < y.2.2.1) (hc : lcat o4 = true) (k : WP κ r y n (o0 :: o1 :: o2 :: o3 :: o4 :: some (.int v) :: L) st w ct Q) : WP κ r y pc (o0 :: o1 :: o2 :: o3 :: o4 :: some (.int x) :: L) st w ct Q := by
  obtain ⟨hd, rfl⟩ := d
  intro p e R s m args below meth c H locs ls C hl hH hS
  obtain ⟨q, hq⟩ := List.getElem?_of_mem (lvA_mem (L := o0 :: o1 :: o2 :: o3 :: o4 :: some (.int x) :: L) (i := 5) (v := .int x) rfl)
  exact lv_iinc (i := 5) (k := q) C.1 C.2.1 hd hl hq hv hi rfl (fun ls' hl' => k p e R s m args below meth c H locs ls' C (lvL_set (L := o0 :: o1 :: o2 :: o3 :: o4 :: some (.int x) :: L) (i := 5) hl' (fun u h1 h2 => lcat_of hc (by simpa using h2)) (by simp)) hH hS)
theorem wp_iinc_6 {x v : Int32} {j : Int} {o0 : Option Value} {o1 : Option Value} {o2 : Option Value} {o3 : Option Value} {o4 : Option Value} {o5 : Option Value} (d : St y pc (.iinc 6 j) 3 n) (hv : x + Int32.ofInt j = v) (hi : 6 < y.2.2.1) (hc : lcat o5 = true) (k : WP κ r y n (o0 :: o1 :: o2 :: o3 :: o4 :: o5 :: some (.int v) :: L) st w ct Q) : WP κ r y pc (o0 :: o1 :: o2 :: o3 :: o4 :: o5 :: some (.int x) :: L) st w ct Q := by
  obtain ⟨hd, rfl⟩ := d
  intro p e R s m args below meth c H locs ls C hl hH hS
  obtain ⟨q, hq⟩ := List.getElem?_of_mem (lvA_mem (L := o0 :: o1 :: o2 :: o3 :: o4 :: o5 :: some (.int x) :: L) (i := 6) (v := .int x) rfl)
  exact lv_iinc (i := 6) (k := q) C.1 C.2.1 hd hl hq hv hi rfl (fun ls' hl' => k p e R s m args below meth c H locs ls' C (lvL_set (L := o0 :: o1 :: o2 :: o3 :: o4 :: o5 :: some (.int x) :: L) (i := 6) hl' (fun u h1 h2 => lcat_of hc (by simpa using h2)) (by simp)) hH hS)
theorem wp_iinc_7 {x v : Int32} {j : Int} {o0 : Option Value} {o1 : Option Value} {o2 : Option Value} {o3 : Option Value} {o4 : Option Value} {o5 : Option Value} {o6 : Option Value} (d : St y pc (.iinc 7 j) 3 n) (hv : x + Int32.ofInt j = v) (hi : 7 < y.2.2.1) (hc : lcat o6 = true) (k : WP κ r y n (o0 :: o1 :: o2 :: o3 :: o4 :: o5 :: o6 :: some (.int v) :: L) st w ct Q) : WP κ r y pc (o0 :: o1 :: o2 :: o3 :: o4 :: o5 :: o6 :: some (.int x) :: L) st w ct Q := by
  obtain ⟨hd, rfl⟩ := d
  intro p e R s m args below meth c H locs ls C hl hH hS
  obtain ⟨q, hq⟩ := List.getElem?_of_mem (lvA_mem (L := o0 :: o1 :: o2 :: o3 :: o4 :: o5 :: o6 :: some (.int x) :: L) (i := 7) (v := .int x) rfl)
  exact lv_iinc (i := 7) (k := q) C.1 C.2.1 hd hl hq hv hi rfl (fun ls' hl' => k p e R s m args below meth c H locs ls' C (lvL_set (L := o0 :: o1 :: o2 :: o3 :: o4 :: o5 :: o6 :: some (.int x) :: L) (i := 7) hl' (fun u h1 h2 => lcat_of hc (by simpa using h2)) (by simp)) hH hS)
theorem wp_iinc_8 {x v : Int32} {j : Int} {o0 : Option Value} {o1 : Option Value} {o2 : Option Value} {o3 : Option Value} {o4 : Option Value} {o5 : Option Value} {o6 : Option Value} {o7 : Option Value} (d : St y pc (.iinc 8 j) 3 n) (hv : x + Int32.ofInt j = v) (hi : 8 < y.2.2.1) (hc : lcat o7 = true) (k : WP κ r y n (o0 :: o1 :: o2 :: o3 :: o4 :: o5 :: o6 :: o7 :: some (.int v) :: L) st w ct Q) : WP κ r y pc (o0 :: o1 :: o2 :: o3 :: o4 :: o5 :: o6 :: o7 :: some (.int x) :: L) st w ct Q := by
  obtain ⟨hd, rfl⟩ := d
  intro p e R s m args below meth c H locs ls C hl hH hS
  obtain ⟨q, hq⟩ := List.getElem?_of_mem (lvA_mem (L := o0 :: o1 :: o2 :: o3 :: o4 :: o5 :: o6 :: o7 :: some (.int x) :: L) (i := 8) (v := .int x) rfl)
  exact lv_iinc (i := 8) (k := q) C.1 C.2.1 hd hl hq hv hi rfl (fun ls' hl' => k p e R s m args below meth c H locs ls' C (lvL_set (L := o0 :: o1 :: o2 :: o3 :: o4 :: o5 :: o6 :: o7 :: some (.int x) :: L) (i := 8) hl' (fun u h1 h2 => lcat_of hc (by simpa using h2)) (by simp)) hH hS)
theorem wp_iinc_9 {x v : Int32} {j : Int} {o0 : Option Value} {o1 : Option Value} {o2 : Option Value} {o3 : Option Value} {o4 : Option Value} {o5 : Option Value} {o6 : Option Value} {o7 : Option Value} {o8 : Option Value} (d : St y pc (.iinc 9 j) 3 n) (hv : x + Int32.ofInt j = v) (hi : 9 < y.2.2.1) (hc : lcat o8 = true) (k : WP κ r y n (o0 :: o1 :: o2 :: o3 :: o4 :: o5 :: o6 :: o7 :: o8 :: some (.int v) :: L) st w ct Q) : WP κ r y pc (o0 :: o1 :: o2 :: o3 :: o4 :: o5 :: o6 :: o7 :: o8 :: some (.int x) :: L) st w ct Q := by
  obtain ⟨hd, rfl⟩ := d
  intro p e R s m args below meth c H locs ls C hl hH hS
  obtain ⟨q, hq⟩ := List.getElem?_of_mem (lvA_mem (L := o0 :: o1 :: o2 :: o3 :: o4 :: o5 :: o6 :: o7 :: o8 :: some (.int x) :: L) (i := 9) (v := .int x) rfl)
  exact lv_iinc (i := 9) (k := q) C.1 C.2.1 hd hl hq hv hi rfl (fun ls' hl' => k p e R s m args below meth c H locs ls' C (lvL_set (L := o0 :: o1 :: o2 :: o3 :: o4 :: o5 :: o6 :: o7 :: o8 :: some (.int x) :: L) (i := 9) hl' (fun u h1 h2 => lcat_of hc (by simpa using h2)) (by simp)) hH hS)
theorem wp_drop_0 {oo : Option Value} (k : WP κ r y pc (none :: L) st w ct Q) : WP κ r y pc (oo :: L) st w ct Q := by
  intro p e R s m args below meth c H locs ls C hl hH hS
  exact k p e R s m args below meth c H locs ls C (lvL_none (L := oo :: L) (i := 0) hl) hH hS
theorem wp_drop_1 {oo : Option Value} {o0 : Option Value} (k : WP κ r y pc (o0 :: none :: L) st w ct Q) : WP κ r y pc (o0 :: oo :: L) st w ct Q := by
  intro p e R s m args below meth c H locs ls C hl hH hS
  exact k p e R s m args below meth c H locs ls C (lvL_none (L := o0 :: oo :: L) (i := 1) hl) hH hS
theorem wp_drop_2 {oo : Option Value} {o0 : Option Value} {o1 : Option Value} (k : WP κ r y pc (o0 :: o1 :: none :: L) st w ct Q) : WP κ r y pc (o0 :: o1 :: oo :: L) st w ct Q := by
  intro p e R s m args below meth c H locs ls C hl hH hS
  exact k p e R s m args below meth c H locs ls C (lvL_none (L := o0 :: o1 :: oo :: L) (i := 2) hl) hH hS
theorem wp_drop_3 {oo : Option Value} {o0 : Option Value} {o1 : Option Value} {o2 : Option Value} (k : WP κ r y pc (o0 :: o1 :: o2 :: none :: L) st w ct Q) : WP κ r y pc (o0 :: o1 :: o2 :: oo :: L) st w ct Q := by
  intro p e R s m args below meth c H locs ls C hl hH hS
  exact k p e R s m args below meth c H locs ls C (lvL_none (L := o0 :: o1 :: o2 :: oo :: L) (i := 3) hl) hH hS
theorem wp_drop_4 {oo : Option Value} {o0 : Option Value} {o1 : Option Value} {o2 : Option Value} {o3 : Option Value} (k : WP κ r y pc (o0 :: o1 :: o2 :: o3 :: none :: L) st w ct Q) : WP κ r y pc (o0 :: o1 :: o2 :: o3 :: oo :: L) st w ct Q := by
  intro p e R s m args below meth c H locs ls C hl hH hS
  exact k p e R s m args below meth c H locs ls C (lvL_none (L := o0 :: o1 :: o2 :: o3 :: oo :: L) (i := 4) hl) hH hS
theorem wp_drop_5 {oo : Option Value} {o0 : Option Value} {o1 : Option Value} {o2 : Option Value} {o3 : Option Value} {o4 : Option Value} (k : WP κ r y pc (o0 :: o1 :: o2 :: o3 :: o4 :: none :: L) st w ct Q) : WP κ r y pc (o0 :: o1 :: o2 :: o3 :: o4 :: oo :: L) st w ct Q := by
  intro p e R s m args below meth c H locs ls C hl hH hS
  exact k p e R s m args below meth c H locs ls C (lvL_none (L := o0 :: o1 :: o2 :: o3 :: o4 :: oo :: L) (i := 5) hl) hH hS
theorem wp_drop_6 {oo : Option Value} {o0 : Option Value} {o1 : Option Value} {o2 : Option Value} {o3 : Option Value} {o4 : Option Value} {o5 : Option Value} (k : WP κ r y pc (o0 :: o1 :: o2 :: o3 :: o4 :: o5 :: none :: L) st w ct Q) : WP κ r y pc (o0 :: o1 :: o2 :: o3 :: o4 :: o5 :: oo :: L) st w ct Q := by
  intro p e R s m args below meth c H locs ls C hl hH hS
  exact k p e R s m args below meth c H locs ls C (lvL_none (L := o0 :: o1 :: o2 :: o3 :: o4 :: o5 :: oo :: L) (i := 6) hl) hH hS
theorem wp_drop_7 {oo : Option Value} {o0 : Option Value} {o1 : Option Value} {o2 : Option Value} {o3 : Option Value} {o4 : Option Value} {o5 : Option Value} {o6 : Option Value} (k : WP κ r y pc (o0 :: o1 :: o2 :: o3 :: o4 :: o5 :: o6 :: none :: L) st w ct Q) : WP κ r y pc (o0 :: o1 :: o2 :: o3 :: o4 :: o5 :: o6 :: oo :: L) st w ct Q := by
  intro p e R s m args below meth c H locs ls C hl hH hS
  exact k p e R s m args below meth c H locs ls C (lvL_none (L := o0 :: o1 :: o2 :: o3 :: o4 :: o5 :: o6 :: oo :: L) (i := 7) hl) hH hS
theorem wp_drop_8 {oo : Option Value} {o0 : Option Value} {o1 : Option Value} {o2 : Option Value} {o3 : Option Value} {o4 : Option Value} {o5 : Option Value} {o6 : Option Value} {o7 : Option Value} (k : WP κ r y pc (o0 :: o1 :: o2 :: o3 :: o4 :: o5 :: o6 :: o7 :: none :: L) st w ct Q) : WP κ r y pc (o0 :: o1 :: o2 :: o3 :: o4 :: o5 :: o6 :: o7 :: oo :: L) st w ct Q := by
  intro p e R s m args below meth c H locs ls C hl hH hS
  exact k p e R s m args below meth c H locs ls C (lvL_none (L := o0 :: o1 :: o2 :: o3 :: o4 :: o5 :: o6 :: o7 :: oo :: L) (i := 8) hl) hH hS
theorem wp_drop_9 {oo : Option Value} {o0 : Option Value} {o1 : Option Value} {o2 : Option Value} {o3 : Option Value} {o4 : Option Value} {o5 : Option Value} {o6 : Option Value} {o7 : Option Value} {o8 : Option Value} (k : WP κ r y pc (o0 :: o1 :: o2 :: o3 :: o4 :: o5 :: o6 :: o7 :: o8 :: none :: L) st w ct Q) : WP κ r y pc (o0 :: o1 :: o2 :: o3 :: o4 :: o5 :: o6 :: o7 :: o8 :: oo :: L) st w ct Q := by
  intro p e R s m args below meth c H locs ls C hl hH hS
  exact k p e R s m args below meth c H locs ls C (lvL_none (L := o0 :: o1 :: o2 :: o3 :: o4 :: o5 :: o6 :: o7 :: o8 :: oo :: L) (i := 9) hl) hH hS
theorem wp_switch {dflt lo hi : Int} {offs : Array Int} {len : Nat} {x : Int32} (d : St y pc (.tableswitch dflt lo hi offs) len n) (tgt : Nat) (ht : (pc : Int) + (if x.toInt < lo ∨ hi < x.toInt then dflt else offs.getD (x.toInt - lo).toNat 0) = (tgt : Int)) (hlo : ¬ (x.toInt < lo ∨ hi < x.toInt) → (x.toInt - lo).toNat < offs.size) (k : WP κ r y tgt L st w ct Q) : WP κ r y pc L (.int x :: st) w ct Q := by
  obtain ⟨hd, -⟩ := d
  intro p e R s m args below meth c H locs ls C hl hH hS
  by_cases h : x.toInt < lo ∨ hi < x.toInt
  · rw [if_pos h] at ht
    exact lv_tableOut C.1 C.2.1 hd h ht (k p e R s m args below meth c H locs ls C hl hH hS)
  · rw [if_neg h] at ht
    have h2 := hlo h
    exact lv_tableIn C.1 C.2.1 hd (fun q => h (Or.inl q)) (fun q => h (Or.inr q)) (off := offs.getD (x.toInt - lo).toNat 0) (by simp [Array.getD, h2]) ht (k p e R s m args below meth c H locs ls C hl hH hS)
theorem wp_ret_q {v : Option Value} (hc : ct.1 = r.2.1 ∧ ct.2 = r.2.2) (hq : Q v w) {p : Program} {R : Room} {s : State} {m : MethodId} {args : Array Value} {meth : Method} {c : Code} {H : Heap} {locs : List Loc} (C : Cx κ r y p R s m args meth c) (hH : HW κ w H) (hS : va_S (kA κ) s.heap H locs) : ∀ t : State, t.heap = H → s.WarmedH t.vm → QW κ Q args s (.returned v) t := by
  intro t ht hW
  refine ⟨⟨v, w, rfl, hq, by rw [ht]; exact hH⟩, hS.F ht⟩
theorem wp_iret {v : Int32} (d : St y pc (.ireturn) 1 n) (hr : y.2.2.2 = some .int) (hc : ct = r.2) (hq : Q (some (.int v)) w) : WP κ r y pc L [.int v] w ct Q := by
  obtain ⟨hd, -⟩ := d
  subst hc
  intro p e R s m args below meth c H locs ls C hl hH hS
  exact W.iret C.1 C.2.1 (C.2.2.2.2.2.2.1.trans hr) (wp_ret_q ⟨rfl, rfl⟩ hq C hH hS) hS.2.2 hd C.2.2.2.2.2.2.2.1
theorem wp_zret {v : Int32} {ty : FieldType} (d : St y pc (.ireturn) 1 n) (hr : y.2.2.2 = some ty) (hn : narrow ty (.int v) = .int v) (hc : ct = r.2) (hq : Q (some (.int v)) w) : WP κ r y pc L [.int v] w ct Q := by
  obtain ⟨hd, -⟩ := d
  subst hc
  intro p e R s m args below meth c H locs ls C hl hH hS
  exact W.zret C.1 C.2.1 (C.2.2.2.2.2.2.1.trans hr) hn (wp_ret_q ⟨rfl, rfl⟩ hq C hH hS) hS.2.2 hd C.2.2.2.2.2.2.2.1
theorem wp_lret {v : Int64} (d : St y pc (.lreturn) 1 n) (hr : y.2.2.2 = some .long) (hc : ct = r.2) (hq : Q (some (.long v)) w) : WP κ r y pc L [.long v] w ct Q := by
  obtain ⟨hd, -⟩ := d
  subst hc
  intro p e R s m args below meth c H locs ls C hl hH hS
  exact W.lret C.1 C.2.1 (C.2.2.2.2.2.2.1.trans hr) (wp_ret_q ⟨rfl, rfl⟩ hq C hH hS) hS.2.2 hd C.2.2.2.2.2.2.2.1
theorem wp_vret (d : St y pc (.return_) 1 n) (hr : y.2.2.2 = none) (hc : ct = r.2) (hq : Q none w) : WP κ r y pc L [] w ct Q := by
  obtain ⟨hd, -⟩ := d
  subst hc
  intro p e R s m args below meth c H locs ls C hl hH hS
  exact W.vret C.1 C.2.1 (C.2.2.2.2.2.2.1.trans hr) (wp_ret_q ⟨rfl, rfl⟩ hq C hH hS) hS.2.2 hd C.2.2.2.2.2.2.2.1
end WPR
