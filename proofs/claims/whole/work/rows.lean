section
-- ===== PART A: goes FIRST, ahead of the names: the tables' words, and 'selects' of the private methods out of them =====
/-- a private method of a class that the tables say can be made, by its rows of tables_1 -/
def lw_okq (q : MethodName × Nat) : Prop := (q.1.cls ≠ "java/lang/invoke/MethodHandle" ∧ q.1.cls ≠ "java/lang/invoke/VarHandle") ∧ Cond.instantiable q.1.cls q.2 ∈ tables_1 ∧ Cond.privateMethod q.1 ∈ tables_1 ∧ Cond.instanceMethod q.1 ∈ tables_1
theorem lw_p0 : lw_okq (⟨"QuarrelWalls", "refusalOfWeeks", "(I)I"⟩, 6) := ⟨⟨by decide +kernel, by decide +kernel⟩, List.mem_of_getElem? (i := 18) (by decide +kernel), List.mem_of_getElem? (i := 455) (by decide +kernel), List.mem_of_getElem? (i := 456) (by decide +kernel)⟩
theorem lw_p1 : lw_okq (⟨"QuarrelWallsModel", "isGarden", "(I)Z"⟩, 13) := ⟨⟨by decide +kernel, by decide +kernel⟩, List.mem_of_getElem? (i := 730) (by decide +kernel), List.mem_of_getElem? (i := 794) (by decide +kernel), List.mem_of_getElem? (i := 795) (by decide +kernel)⟩
theorem lw_p2 : lw_okq (⟨"QuarrelWallsModel", "sees", "(I)I"⟩, 13) := ⟨⟨by decide +kernel, by decide +kernel⟩, List.mem_of_getElem? (i := 730) (by decide +kernel), List.mem_of_getElem? (i := 802) (by decide +kernel), List.mem_of_getElem? (i := 803) (by decide +kernel)⟩
theorem lw_p3 : lw_okq (⟨"QuarrelWallsModel", "isWall", "(I)Z"⟩, 13) := ⟨⟨by decide +kernel, by decide +kernel⟩, List.mem_of_getElem? (i := 730) (by decide +kernel), List.mem_of_getElem? (i := 810) (by decide +kernel), List.mem_of_getElem? (i := 811) (by decide +kernel)⟩
theorem lw_p4 : lw_okq (⟨"QuarrelWallsModel", "waits", "(I)I"⟩, 13) := ⟨⟨by decide +kernel, by decide +kernel⟩, List.mem_of_getElem? (i := 730) (by decide +kernel), List.mem_of_getElem? (i := 818) (by decide +kernel), List.mem_of_getElem? (i := 819) (by decide +kernel)⟩
theorem lw_p5 : lw_okq (⟨"QuarrelWallsModel", "becomes", "(II)I"⟩, 13) := ⟨⟨by decide +kernel, by decide +kernel⟩, List.mem_of_getElem? (i := 730) (by decide +kernel), List.mem_of_getElem? (i := 826) (by decide +kernel), List.mem_of_getElem? (i := 827) (by decide +kernel)⟩
theorem lw_p6 : lw_okq (⟨"QuarrelWallsModel", "reads", "()Z"⟩, 13) := ⟨⟨by decide +kernel, by decide +kernel⟩, List.mem_of_getElem? (i := 730) (by decide +kernel), List.mem_of_getElem? (i := 845) (by decide +kernel), List.mem_of_getElem? (i := 846) (by decide +kernel)⟩
theorem lw_p7 : lw_okq (⟨"QuarrelWallsModel", "readsYear", "()Z"⟩, 13) := ⟨⟨by decide +kernel, by decide +kernel⟩, List.mem_of_getElem? (i := 730) (by decide +kernel), List.mem_of_getElem? (i := 849) (by decide +kernel), List.mem_of_getElem? (i := 850) (by decide +kernel)⟩
theorem lw_p8 : lw_okq (⟨"QuarrelWallsModel", "here", "()I"⟩, 13) := ⟨⟨by decide +kernel, by decide +kernel⟩, List.mem_of_getElem? (i := 730) (by decide +kernel), List.mem_of_getElem? (i := 853) (by decide +kernel), List.mem_of_getElem? (i := 854) (by decide +kernel)⟩
theorem lw_p9 : lw_okq (⟨"QuarrelWallsModel", "isFigure", "()Z"⟩, 13) := ⟨⟨by decide +kernel, by decide +kernel⟩, List.mem_of_getElem? (i := 730) (by decide +kernel), List.mem_of_getElem? (i := 859) (by decide +kernel), List.mem_of_getElem? (i := 860) (by decide +kernel)⟩
theorem lw_p10 : lw_okq (⟨"QuarrelWallsModel", "readsGarden", "()Z"⟩, 13) := ⟨⟨by decide +kernel, by decide +kernel⟩, List.mem_of_getElem? (i := 730) (by decide +kernel), List.mem_of_getElem? (i := 863) (by decide +kernel), List.mem_of_getElem? (i := 864) (by decide +kernel)⟩
theorem lw_p11 : lw_okq (⟨"QuarrelWallsModel", "readsQuarrel", "(I)Z"⟩, 13) := ⟨⟨by decide +kernel, by decide +kernel⟩, List.mem_of_getElem? (i := 730) (by decide +kernel), List.mem_of_getElem? (i := 870) (by decide +kernel), List.mem_of_getElem? (i := 871) (by decide +kernel)⟩
theorem lw_p12 : lw_okq (⟨"QuarrelWallsModel", "until", "()I"⟩, 13) := ⟨⟨by decide +kernel, by decide +kernel⟩, List.mem_of_getElem? (i := 730) (by decide +kernel), List.mem_of_getElem? (i := 887) (by decide +kernel), List.mem_of_getElem? (i := 888) (by decide +kernel)⟩
theorem lw_p13 : lw_okq (⟨"QuarrelWallsModel", "maySorry", "()I"⟩, 13) := ⟨⟨by decide +kernel, by decide +kernel⟩, List.mem_of_getElem? (i := 730) (by decide +kernel), List.mem_of_getElem? (i := 891) (by decide +kernel), List.mem_of_getElem? (i := 892) (by decide +kernel)⟩
theorem lw_p14 : lw_okq (⟨"QuarrelWallsModel", "remember", "()V"⟩, 13) := ⟨⟨by decide +kernel, by decide +kernel⟩, List.mem_of_getElem? (i := 730) (by decide +kernel), List.mem_of_getElem? (i := 899) (by decide +kernel), List.mem_of_getElem? (i := 900) (by decide +kernel)⟩
theorem lw_p15 : lw_okq (⟨"QuarrelWallsModel", "fall", "(I)V"⟩, 13) := ⟨⟨by decide +kernel, by decide +kernel⟩, List.mem_of_getElem? (i := 730) (by decide +kernel), List.mem_of_getElem? (i := 942) (by decide +kernel), List.mem_of_getElem? (i := 943) (by decide +kernel)⟩
def lw_privs_1 : List (MethodName × Nat) := [(⟨"QuarrelWalls", "refusalOfWeeks", "(I)I"⟩, 6), (⟨"QuarrelWallsModel", "isGarden", "(I)Z"⟩, 13), (⟨"QuarrelWallsModel", "sees", "(I)I"⟩, 13), (⟨"QuarrelWallsModel", "isWall", "(I)Z"⟩, 13), (⟨"QuarrelWallsModel", "waits", "(I)I"⟩, 13), (⟨"QuarrelWallsModel", "becomes", "(II)I"⟩, 13), (⟨"QuarrelWallsModel", "reads", "()Z"⟩, 13), (⟨"QuarrelWallsModel", "readsYear", "()Z"⟩, 13), (⟨"QuarrelWallsModel", "here", "()I"⟩, 13), (⟨"QuarrelWallsModel", "isFigure", "()Z"⟩, 13), (⟨"QuarrelWallsModel", "readsGarden", "()Z"⟩, 13), (⟨"QuarrelWallsModel", "readsQuarrel", "(I)Z"⟩, 13), (⟨"QuarrelWallsModel", "until", "()I"⟩, 13), (⟨"QuarrelWallsModel", "maySorry", "()I"⟩, 13), (⟨"QuarrelWallsModel", "remember", "()V"⟩, 13), (⟨"QuarrelWallsModel", "fall", "(I)V"⟩, 13)]
theorem lw_r1 : ∀ q ∈ lw_privs_1, lw_okq q := List.forall_mem_cons.mpr ⟨lw_p0, List.forall_mem_cons.mpr ⟨lw_p1, List.forall_mem_cons.mpr ⟨lw_p2, List.forall_mem_cons.mpr ⟨lw_p3, List.forall_mem_cons.mpr ⟨lw_p4, List.forall_mem_cons.mpr ⟨lw_p5, List.forall_mem_cons.mpr ⟨lw_p6, List.forall_mem_cons.mpr ⟨lw_p7, List.forall_mem_cons.mpr ⟨lw_p8, List.forall_mem_cons.mpr ⟨lw_p9, List.forall_mem_cons.mpr ⟨lw_p10, List.forall_mem_cons.mpr ⟨lw_p11, List.forall_mem_cons.mpr ⟨lw_p12, List.forall_mem_cons.mpr ⟨lw_p13, List.forall_mem_cons.mpr ⟨lw_p14, List.forall_mem_cons.mpr ⟨lw_p15, fun _ h => absurd h List.not_mem_nil⟩⟩⟩⟩⟩⟩⟩⟩⟩⟩⟩⟩⟩⟩⟩⟩
theorem lw_p16 : lw_okq (⟨"QuarrelWallsModel", "layAside", "()V"⟩, 13) := ⟨⟨by decide +kernel, by decide +kernel⟩, List.mem_of_getElem? (i := 730) (by decide +kernel), List.mem_of_getElem? (i := 967) (by decide +kernel), List.mem_of_getElem? (i := 968) (by decide +kernel)⟩
theorem lw_p17 : lw_okq (⟨"QuarrelWallsModel", "go", "(I)V"⟩, 13) := ⟨⟨by decide +kernel, by decide +kernel⟩, List.mem_of_getElem? (i := 730) (by decide +kernel), List.mem_of_getElem? (i := 971) (by decide +kernel), List.mem_of_getElem? (i := 972) (by decide +kernel)⟩
theorem lw_p18 : lw_okq (⟨"QuarrelWallsModel", "found", "(IIII)I"⟩, 13) := ⟨⟨by decide +kernel, by decide +kernel⟩, List.mem_of_getElem? (i := 730) (by decide +kernel), List.mem_of_getElem? (i := 1019) (by decide +kernel), List.mem_of_getElem? (i := 1020) (by decide +kernel)⟩
def lw_privs_2 : List (MethodName × Nat) := [(⟨"QuarrelWallsModel", "layAside", "()V"⟩, 13), (⟨"QuarrelWallsModel", "go", "(I)V"⟩, 13), (⟨"QuarrelWallsModel", "found", "(IIII)I"⟩, 13)]
theorem lw_r2 : ∀ q ∈ lw_privs_2, lw_okq q := List.forall_mem_cons.mpr ⟨lw_p16, List.forall_mem_cons.mpr ⟨lw_p17, List.forall_mem_cons.mpr ⟨lw_p18, fun _ h => absurd h List.not_mem_nil⟩⟩⟩
def lw_privs : List (MethodName × Nat) := lw_privs_1 ++ (lw_privs_2)
def lw_tbl : List Cond := k2_sels lw_privs ++ tables_1
theorem lw_privs_ok : ∀ q ∈ lw_privs, lw_okq q := by
  show ∀ q ∈ lw_privs_1 ++ (lw_privs_2), lw_okq q
  exact List.forall_mem_append.mpr ⟨lw_r1, lw_r2⟩
end
section
/-! names: classes, fields, methods -/
theorem tb_len : True := trivial
def TB : List Cond := lw_tbl.filter goodWord
theorem TB_mem {w : Cond} (i : Nat) (h : lw_tbl[i]? = some w) (hg : goodWord w = true) : w ∈ TB := List.mem_filter.mpr ⟨List.mem_of_getElem? h, hg⟩
theorem TB_good {w : Cond} (h : w ∈ TB) : (w.onTables && w.keeps) = true ∨ ∃ ty, w = .arrayClass ty := good_of_word (List.mem_filter.mp h).2
abbrev MD : Type := MethodName × ByteArray × Nat × Option FieldType
/-- at pc stands the instruction i, and behind it comes n -/
def St (y : MD) (pc : Nat) (i : Instr) (len n : Nat) : Prop := decode y.2.1 pc = .ok (i, len) ∧ n = pc + len
def RJ0 : String := "java/lang/String"
def TJ0 : u_T := fun k => match k with
  | _ => ("", "", "", false)
def tyJ0 : Nat → FieldType := fun k => match k with
  | _ => .int
theorem nmJ0 : ∀ a, a < 0 → ∀ b, b < 0 → a ≠ b → (TJ0 a).2.1 ≠ (TJ0 b).2.1 := by decide +kernel
theorem tyJ0_ok : ∀ k, k < 0 → parseFieldDescriptor (TJ0 k).2.2.1 = some (tyJ0 k) := by decide +kernel
def RJ1 : String := "java/lang/StringLatin1"
def TJ1 : u_T := fun k => match k with
  | _ => ("", "", "", false)
def tyJ1 : Nat → FieldType := fun k => match k with
  | _ => .int
theorem nmJ1 : ∀ a, a < 0 → ∀ b, b < 0 → a ≠ b → (TJ1 a).2.1 ≠ (TJ1 b).2.1 := by decide +kernel
theorem tyJ1_ok : ∀ k, k < 0 → parseFieldDescriptor (TJ1 k).2.2.1 = some (tyJ1 k) := by decide +kernel
def RJ10 : String := "java/lang/System"
def TJ10 : u_T := fun k => match k with
  | _ => ("", "", "", false)
def tyJ10 : Nat → FieldType := fun k => match k with
  | _ => .int
theorem nmJ10 : ∀ a, a < 0 → ∀ b, b < 0 → a ≠ b → (TJ10 a).2.1 ≠ (TJ10 b).2.1 := by decide +kernel
theorem tyJ10_ok : ∀ k, k < 0 → parseFieldDescriptor (TJ10 k).2.2.1 = some (tyJ10 k) := by decide +kernel
def RJ11 : String := "java/lang/Character"
def TJ11 : u_T := fun k => match k with
  | _ => ("", "", "", false)
def tyJ11 : Nat → FieldType := fun k => match k with
  | _ => .int
theorem nmJ11 : ∀ a, a < 0 → ∀ b, b < 0 → a ≠ b → (TJ11 a).2.1 ≠ (TJ11 b).2.1 := by decide +kernel
theorem tyJ11_ok : ∀ k, k < 0 → parseFieldDescriptor (TJ11 k).2.2.1 = some (tyJ11 k) := by decide +kernel
def RJ2 : String := "java/lang/StringUTF16"
def TJ2 : u_T := fun k => match k with
  | _ => ("", "", "", false)
def tyJ2 : Nat → FieldType := fun k => match k with
  | _ => .int
theorem nmJ2 : ∀ a, a < 0 → ∀ b, b < 0 → a ≠ b → (TJ2 a).2.1 ≠ (TJ2 b).2.1 := by decide +kernel
theorem tyJ2_ok : ∀ k, k < 0 → parseFieldDescriptor (TJ2 k).2.2.1 = some (tyJ2 k) := by decide +kernel
def RJ3 : String := "jdk/internal/util/Preconditions"
def TJ3 : u_T := fun k => match k with
  | _ => ("", "", "", false)
def tyJ3 : Nat → FieldType := fun k => match k with
  | _ => .int
theorem nmJ3 : ∀ a, a < 0 → ∀ b, b < 0 → a ≠ b → (TJ3 a).2.1 ≠ (TJ3 b).2.1 := by decide +kernel
theorem tyJ3_ok : ∀ k, k < 0 → parseFieldDescriptor (TJ3 k).2.2.1 = some (tyJ3 k) := by decide +kernel
def RJ6 : String := "java/lang/Integer"
def TJ6 : u_T := fun k => match k with
  | _ => ("", "", "", false)
def tyJ6 : Nat → FieldType := fun k => match k with
  | _ => .int
theorem nmJ6 : ∀ a, a < 0 → ∀ b, b < 0 → a ≠ b → (TJ6 a).2.1 ≠ (TJ6 b).2.1 := by decide +kernel
theorem tyJ6_ok : ∀ k, k < 0 → parseFieldDescriptor (TJ6 k).2.2.1 = some (tyJ6 k) := by decide +kernel
def RJ9 : String := "java/lang/Math"
def TJ9 : u_T := fun k => match k with
  | _ => ("", "", "", false)
def tyJ9 : Nat → FieldType := fun k => match k with
  | _ => .int
theorem nmJ9 : ∀ a, a < 0 → ∀ b, b < 0 → a ≠ b → (TJ9 a).2.1 ≠ (TJ9 b).2.1 := by decide +kernel
theorem tyJ9_ok : ∀ k, k < 0 → parseFieldDescriptor (TJ9 k).2.2.1 = some (tyJ9 k) := by decide +kernel
def RX0 : String := "QuarrelWalls$Outlook"
def TX0 : u_T := fun k => match k with
  | 0 => ("QuarrelWalls$Outlook", "street", "LQuarrelWalls$Street;", true)
  | 1 => ("QuarrelWalls$Outlook", "courses", "[I", true)
  | 2 => ("QuarrelWalls$Outlook", "quarrels", "[I", true)
  | 3 => ("QuarrelWalls$Outlook", "plain", "[I", true)
  | _ => ("QuarrelWalls$Outlook", "moved", "[I", true)
def tyX0 : Nat → FieldType := fun k => match k with
  | 0 => .object "QuarrelWalls$Street"
  | 1 => .array .int
  | 2 => .array .int
  | 3 => .array .int
  | _ => .array .int
theorem nmX0 : ∀ a, a < 5 → ∀ b, b < 5 → a ≠ b → (TX0 a).2.1 ≠ (TX0 b).2.1 := by decide +kernel
theorem tyX0_ok : ∀ k, k < 5 → parseFieldDescriptor (TX0 k).2.2.1 = some (tyX0 k) := by decide +kernel
def RX1 : String := "QuarrelWalls$Past"
def TX1 : u_T := fun k => match k with
  | 0 => ("QuarrelWalls$Past", "steps", "[LQuarrelWalls$Standing;", true)
  | 1 => ("QuarrelWalls$Past", "oldest", "I", false)
  | _ => ("QuarrelWalls$Past", "known", "I", false)
def tyX1 : Nat → FieldType := fun k => match k with
  | 0 => .array (.object "QuarrelWalls$Standing")
  | 1 => .int
  | _ => .int
theorem nmX1 : ∀ a, a < 3 → ∀ b, b < 3 → a ≠ b → (TX1 a).2.1 ≠ (TX1 b).2.1 := by decide +kernel
theorem tyX1_ok : ∀ k, k < 3 → parseFieldDescriptor (TX1 k).2.2.1 = some (tyX1 k) := by decide +kernel
def RX2 : String := "QuarrelWalls$Sheet"
def TX2 : u_T := fun k => match k with
  | 0 => ("QuarrelWalls$Sheet", "items", "[J", true)
  | 1 => ("QuarrelWalls$Sheet", "held", "Z", false)
  | 2 => ("QuarrelWalls$Sheet", "lane", "I", false)
  | _ => ("QuarrelWalls$Sheet", "length", "I", false)
def tyX2 : Nat → FieldType := fun k => match k with
  | 0 => .array .long
  | 1 => .boolean
  | 2 => .int
  | _ => .int
theorem nmX2 : ∀ a, a < 4 → ∀ b, b < 4 → a ≠ b → (TX2 a).2.1 ≠ (TX2 b).2.1 := by decide +kernel
theorem tyX2_ok : ∀ k, k < 4 → parseFieldDescriptor (TX2 k).2.2.1 = some (tyX2 k) := by decide +kernel
def RX3 : String := "QuarrelWalls$Standing"
def TX3 : u_T := fun k => match k with
  | 0 => ("QuarrelWalls$Standing", "courses", "[I", true)
  | 1 => ("QuarrelWalls$Standing", "quarrels", "[I", true)
  | 2 => ("QuarrelWalls$Standing", "apologyFrom", "[I", true)
  | 3 => ("QuarrelWalls$Standing", "paid", "[I", true)
  | 4 => ("QuarrelWalls$Standing", "week", "I", false)
  | _ => ("QuarrelWalls$Standing", "draw", "I", false)
def tyX3 : Nat → FieldType := fun k => match k with
  | 0 => .array .int
  | 1 => .array .int
  | 2 => .array .int
  | 3 => .array .int
  | 4 => .int
  | _ => .int
theorem nmX3 : ∀ a, a < 6 → ∀ b, b < 6 → a ≠ b → (TX3 a).2.1 ≠ (TX3 b).2.1 := by decide +kernel
theorem tyX3_ok : ∀ k, k < 6 → parseFieldDescriptor (TX3 k).2.2.1 = some (tyX3 k) := by decide +kernel
def RX4 : String := "QuarrelWalls$Street"
def TX4 : u_T := fun k => match k with
  | 0 => ("QuarrelWalls$Street", "kinds", "[I", true)
  | 1 => ("QuarrelWalls$Street", "noises", "[I", true)
  | 2 => ("QuarrelWalls$Street", "gardens", "I", false)
  | 3 => ("QuarrelWalls$Street", "year", "I", false)
  | 4 => ("QuarrelWalls$Street", "ease", "I", false)
  | 5 => ("QuarrelWalls$Street", "now", "LQuarrelWalls$Standing;", true)
  | _ => ("QuarrelWalls$Street", "past", "LQuarrelWalls$Past;", true)
def tyX4 : Nat → FieldType := fun k => match k with
  | 0 => .array .int
  | 1 => .array .int
  | 2 => .int
  | 3 => .int
  | 4 => .int
  | 5 => .object "QuarrelWalls$Standing"
  | _ => .object "QuarrelWalls$Past"
theorem nmX4 : ∀ a, a < 7 → ∀ b, b < 7 → a ≠ b → (TX4 a).2.1 ≠ (TX4 b).2.1 := by decide +kernel
theorem tyX4_ok : ∀ k, k < 7 → parseFieldDescriptor (TX4 k).2.2.1 = some (tyX4 k) := by decide +kernel
def RX5 : String := "QuarrelWalls$Tape"
def TX5 : u_T := fun k => match k with
  | 0 => ("QuarrelWalls$Tape", "letters", "[C", true)
  | 1 => ("QuarrelWalls$Tape", "length", "I", false)
  | 2 => ("QuarrelWalls$Tape", "kinds", "[I", true)
  | 3 => ("QuarrelWalls$Tape", "noises", "[I", true)
  | 4 => ("QuarrelWalls$Tape", "quarrels", "[I", true)
  | 5 => ("QuarrelWalls$Tape", "gardens", "I", false)
  | 6 => ("QuarrelWalls$Tape", "year", "I", false)
  | _ => ("QuarrelWalls$Tape", "at", "I", false)
def tyX5 : Nat → FieldType := fun k => match k with
  | 0 => .array .char
  | 1 => .int
  | 2 => .array .int
  | 3 => .array .int
  | 4 => .array .int
  | 5 => .int
  | 6 => .int
  | _ => .int
theorem nmX5 : ∀ a, a < 8 → ∀ b, b < 8 → a ≠ b → (TX5 a).2.1 ≠ (TX5 b).2.1 := by decide +kernel
theorem tyX5_ok : ∀ k, k < 8 → parseFieldDescriptor (TX5 k).2.2.1 = some (tyX5 k) := by decide +kernel
def RX6 : String := "QuarrelWalls"
def TX6 : u_T := fun k => match k with
  | 0 => ("QuarrelWalls", "street", "LQuarrelWalls$Street;", true)
  | 1 => ("QuarrelWalls", "kept", "LQuarrelWalls$Street;", true)
  | 2 => ("QuarrelWalls", "anyKept", "Z", false)
  | 3 => ("QuarrelWalls", "outlook", "LQuarrelWalls$Outlook;", true)
  | 4 => ("QuarrelWalls", "tape", "LQuarrelWalls$Tape;", true)
  | _ => ("QuarrelWalls", "sheets", "[LQuarrelWalls$Sheet;", true)
def tyX6 : Nat → FieldType := fun k => match k with
  | 0 => .object "QuarrelWalls$Street"
  | 1 => .object "QuarrelWalls$Street"
  | 2 => .boolean
  | 3 => .object "QuarrelWalls$Outlook"
  | 4 => .object "QuarrelWalls$Tape"
  | _ => .array (.object "QuarrelWalls$Sheet")
theorem nmX6 : ∀ a, a < 6 → ∀ b, b < 6 → a ≠ b → (TX6 a).2.1 ≠ (TX6 b).2.1 := by decide +kernel
theorem tyX6_ok : ∀ k, k < 6 → parseFieldDescriptor (TX6 k).2.2.1 = some (tyX6 k) := by decide +kernel
def RX7 : String := "QuarrelWallsModel"
def TX7 : u_T := fun k => match k with
  | 0 => ("QuarrelWallsModel", "now", "[I", true)
  | 1 => ("QuarrelWallsModel", "aside", "[I", true)
  | 2 => ("QuarrelWallsModel", "read", "[I", true)
  | 3 => ("QuarrelWallsModel", "kept", "[I", true)
  | 4 => ("QuarrelWallsModel", "isKept", "Z", false)
  | 5 => ("QuarrelWallsModel", "tape", "[I", true)
  | 6 => ("QuarrelWallsModel", "size", "I", false)
  | 7 => ("QuarrelWallsModel", "lanes", "[I", true)
  | 8 => ("QuarrelWallsModel", "sizes", "[I", true)
  | 9 => ("QuarrelWallsModel", "items", "[J", true)
  | 10 => ("QuarrelWallsModel", "at", "I", false)
  | 11 => ("QuarrelWallsModel", "wrong", "I", false)
  | _ => ("QuarrelWallsModel", "more", "Z", false)
def tyX7 : Nat → FieldType := fun k => match k with
  | 0 => .array .int
  | 1 => .array .int
  | 2 => .array .int
  | 3 => .array .int
  | 4 => .boolean
  | 5 => .array .int
  | 6 => .int
  | 7 => .array .int
  | 8 => .array .int
  | 9 => .array .long
  | 10 => .int
  | 11 => .int
  | _ => .boolean
theorem nmX7 : ∀ a, a < 13 → ∀ b, b < 13 → a ≠ b → (TX7 a).2.1 ≠ (TX7 b).2.1 := by decide +kernel
theorem tyX7_ok : ∀ k, k < 13 → parseFieldDescriptor (TX7 k).2.2.1 = some (tyX7 k) := by decide +kernel
def RL : String := "QuarrelWallsLaw"
def yX0_init : MethodName := ⟨RX0, "<init>", "(LQuarrelWalls$Street;)V"⟩
def mX0_init : MD := (yX0_init, prog_2_method_1_code, 2, none)
def yX0_grown : MethodName := ⟨RX0, "grown", "(IIII)I"⟩
def mX0_grown : MD := (yX0_grown, prog_2_method_2_code, 5, (some .int))
def yX0_behind : MethodName := ⟨RX0, "behind", "(III)I"⟩
def mX0_behind : MD := (yX0_behind, prog_2_method_3_code, 9, (some .int))
def yX0_allBehind : MethodName := ⟨RX0, "allBehind", "(II)I"⟩
def mX0_allBehind : MD := (yX0_allBehind, prog_2_method_4_code, 5, (some .int))
def yX0_changingMichaelmases : MethodName := ⟨RX0, "changingMichaelmases", "()I"⟩
def mX0_changingMichaelmases : MD := (yX0_changingMichaelmases, prog_2_method_5_code, 3, (some .int))
def yX0_michaelmasChanges : MethodName := ⟨RX0, "michaelmasChanges", "(I)Z"⟩
def mX0_michaelmasChanges : MD := (yX0_michaelmasChanges, prog_2_method_6_code, 5, (some .boolean))
def yX0_coursesNext : MethodName := ⟨RX0, "coursesNext", "(II)I"⟩
def mX0_coursesNext : MD := (yX0_coursesNext, prog_2_method_7_code, 3, (some .int))
def yX0_giftFor : MethodName := ⟨RX0, "giftFor", "(II)I"⟩
def mX0_giftFor : MD := (yX0_giftFor, prog_2_method_8_code, 4, (some .int))
def yX0_weighApologies : MethodName := ⟨RX0, "weighApologies", "()V"⟩
def mX0_weighApologies : MD := (yX0_weighApologies, prog_2_method_9_code, 3, none)
def yX0_weighGossip : MethodName := ⟨RX0, "weighGossip", "(I)V"⟩
def mX0_weighGossip : MD := (yX0_weighGossip, prog_2_method_10_code, 4, none)
def yX0_coursesWith : MethodName := ⟨RX0, "coursesWith", "(I)I"⟩
def mX0_coursesWith : MD := (yX0_coursesWith, prog_2_method_11_code, 4, (some .int))
def yX0_bestApologies : MethodName := ⟨RX0, "bestApologies", "(I)I"⟩
def mX0_bestApologies : MD := (yX0_bestApologies, prog_2_method_12_code, 7, (some .int))
def yX0_bestGossip : MethodName := ⟨RX0, "bestGossip", "()I"⟩
def mX0_bestGossip : MD := (yX0_bestGossip, prog_2_method_13_code, 5, (some .int))
def yX0_chanceToStand : MethodName := ⟨RX0, "chanceToStand", "(I)I"⟩
def mX0_chanceToStand : MD := (yX0_chanceToStand, prog_2_method_14_code, 6, (some .int))
def yX0_howManyFit : MethodName := ⟨RX0, "howManyFit", "(ILQuarrelWalls$Sheet;II)I"⟩
def mX0_howManyFit : MD := (yX0_howManyFit, prog_2_method_15_code, 7, (some .int))
def yX0_leastThatFits : MethodName := ⟨RX0, "leastThatFits", "(ILQuarrelWalls$Sheet;II)I"⟩
def mX0_leastThatFits : MD := (yX0_leastThatFits, prog_2_method_16_code, 6, (some .int))
def yX0_fits : MethodName := ⟨RX0, "fits", "(IILQuarrelWalls$Sheet;II)Z"⟩
def mX0_fits : MD := (yX0_fits, prog_2_method_17_code, 10, (some .boolean))
def yX1_init : MethodName := ⟨RX1, "<init>", "()V"⟩
def mX1_init : MD := (yX1_init, prog_3_method_1_code, 2, none)
def yX1_become : MethodName := ⟨RX1, "become", "(LQuarrelWalls$Past;)V"⟩
def mX1_become : MD := (yX1_become, prog_3_method_2_code, 3, none)
def yX1_forget : MethodName := ⟨RX1, "forget", "()V"⟩
def mX1_forget : MD := (yX1_forget, prog_3_method_3_code, 1, none)
def yX1_add : MethodName := ⟨RX1, "add", "(LQuarrelWalls$Standing;)V"⟩
def mX1_add : MD := (yX1_add, prog_3_method_4_code, 2, none)
def yX1_giveBack : MethodName := ⟨RX1, "giveBack", "(LQuarrelWalls$Standing;)I"⟩
def mX1_giveBack : MD := (yX1_giveBack, prog_3_method_5_code, 2, (some .int))
def yX2_init : MethodName := ⟨RX2, "<init>", "()V"⟩
def mX2_init : MD := (yX2_init, prog_4_method_1_code, 1, none)
def yX2_renew : MethodName := ⟨RX2, "renew", "(II)V"⟩
def mX2_renew : MD := (yX2_renew, prog_4_method_2_code, 4, none)
def yX2_has : MethodName := ⟨RX2, "has", "(II)Z"⟩
def mX2_has : MD := (yX2_has, prog_4_method_3_code, 3, (some .boolean))
def yX2_refusal : MethodName := ⟨RX2, "refusal", "(III)I"⟩
def mX2_refusal : MD := (yX2_refusal, prog_4_method_4_code, 4, (some .int))
def yX2_put : MethodName := ⟨RX2, "put", "(IJ)V"⟩
def mX2_put : MD := (yX2_put, prog_4_method_5_code, 4, none)
def yX3_init : MethodName := ⟨RX3, "<init>", "()V"⟩
def mX3_init : MD := (yX3_init, prog_5_method_1_code, 1, none)
def yX3_become : MethodName := ⟨RX3, "become", "(LQuarrelWalls$Standing;)V"⟩
def mX3_become : MD := (yX3_become, prog_5_method_2_code, 2, none)
def yX3_clearWall : MethodName := ⟨RX3, "clearWall", "(I)V"⟩
def mX3_clearWall : MD := (yX3_clearWall, prog_5_method_3_code, 2, none)
def yX3_weeksToApology : MethodName := ⟨RX3, "weeksToApology", "(I)I"⟩
def mX3_weeksToApology : MD := (yX3_weeksToApology, prog_5_method_4_code, 2, (some .int))
def yX4_init : MethodName := ⟨RX4, "<init>", "()V"⟩
def mX4_init : MD := (yX4_init, prog_6_method_1_code, 1, none)
def yX4_become : MethodName := ⟨RX4, "become", "(LQuarrelWalls$Street;)V"⟩
def mX4_become : MD := (yX4_become, prog_6_method_2_code, 2, none)
def yX4_remember : MethodName := ⟨RX4, "remember", "()V"⟩
def mX4_remember : MD := (yX4_remember, prog_6_method_3_code, 1, none)
def yX4_walls : MethodName := ⟨RX4, "walls", "()I"⟩
def mX4_walls : MD := (yX4_walls, prog_6_method_4_code, 1, (some .int))
def yX4_isGarden : MethodName := ⟨RX4, "isGarden", "(I)Z"⟩
def mX4_isGarden : MD := (yX4_isGarden, prog_6_method_5_code, 2, (some .boolean))
def yX4_isWall : MethodName := ⟨RX4, "isWall", "(I)Z"⟩
def mX4_isWall : MD := (yX4_isWall, prog_6_method_6_code, 2, (some .boolean))
def yX4_settle : MethodName := ⟨RX4, "settle", "(II)I"⟩
def mX4_settle : MD := (yX4_settle, prog_6_method_7_code, 4, (some .int))
def yX4_layOut : MethodName := ⟨RX4, "layOut", "(LQuarrelWalls$Tape;)V"⟩
def mX4_layOut : MD := (yX4_layOut, prog_6_method_8_code, 3, none)
def yX4_galls : MethodName := ⟨RX4, "galls", "(III)I"⟩
def mX4_galls : MD := (yX4_galls, prog_6_method_9_code, 5, (some .int))
def yX4_galledBy : MethodName := ⟨RX4, "galledBy", "(II)I"⟩
def mX4_galledBy : MD := (yX4_galledBy, prog_6_method_10_code, 3, (some .int))
def yX4_weekly : MethodName := ⟨RX4, "weekly", "(II)I"⟩
def mX4_weekly : MD := (yX4_weekly, prog_6_method_11_code, 3, (some .int))
def yX4_inSight : MethodName := ⟨RX4, "inSight", "(I)I"⟩
def mX4_inSight : MD := (yX4_inSight, prog_6_method_12_code, 4, (some .int))
def yX4_openToApology : MethodName := ⟨RX4, "openToApology", "()I"⟩
def mX4_openToApology : MD := (yX4_openToApology, prog_6_method_13_code, 3, (some .int))
def yX4_weeksToMichaelmas : MethodName := ⟨RX4, "weeksToMichaelmas", "()I"⟩
def mX4_weeksToMichaelmas : MD := (yX4_weeksToMichaelmas, prog_6_method_14_code, 1, (some .int))
def yX4_passWeek : MethodName := ⟨RX4, "passWeek", "()V"⟩
def mX4_passWeek : MD := (yX4_passWeek, prog_6_method_15_code, 3, none)
def yX4_assess : MethodName := ⟨RX4, "assess", "(I)V"⟩
def mX4_assess : MD := (yX4_assess, prog_6_method_16_code, 4, none)
def yX4_blow : MethodName := ⟨RX4, "blow", "()I"⟩
def mX4_blow : MD := (yX4_blow, prog_6_method_17_code, 3, (some .int))
def yX4_drawNext : MethodName := ⟨RX4, "drawNext", "()I"⟩
def mX4_drawNext : MD := (yX4_drawNext, prog_6_method_18_code, 1, (some .int))
def yX4_vary : MethodName := ⟨RX4, "vary", "(II)I"⟩
def mX4_vary : MD := (yX4_vary, prog_6_method_19_code, 3, (some .int))
def yX4_apologise : MethodName := ⟨RX4, "apologise", "(I)I"⟩
def mX4_apologise : MD := (yX4_apologise, prog_6_method_20_code, 2, (some .int))
def yX4_collapse : MethodName := ⟨RX4, "collapse", "(I)I"⟩
def mX4_collapse : MD := (yX4_collapse, prog_6_method_21_code, 3, (some .int))
def yX5_init : MethodName := ⟨RX5, "<init>", "()V"⟩
def mX5_init : MD := (yX5_init, prog_7_method_1_code, 1, none)
def yX5_write : MethodName := ⟨RX5, "write", "(C)I"⟩
def mX5_write : MD := (yX5_write, prog_7_method_2_code, 2, (some .int))
def yX5_parse : MethodName := ⟨RX5, "parse", "()I"⟩
def mX5_parse : MD := (yX5_parse, prog_7_method_3_code, 2, (some .int))
def yX5_atEnd : MethodName := ⟨RX5, "atEnd", "()Z"⟩
def mX5_atEnd : MD := (yX5_atEnd, prog_7_method_4_code, 1, (some .boolean))
def yX5_isDigit : MethodName := ⟨RX5, "isDigit", "()Z"⟩
def mX5_isDigit : MD := (yX5_isDigit, prog_7_method_5_code, 1, (some .boolean))
def yX5_readDigit : MethodName := ⟨RX5, "readDigit", "()I"⟩
def mX5_readDigit : MD := (yX5_readDigit, prog_7_method_6_code, 2, (some .int))
def yX5_readYear : MethodName := ⟨RX5, "readYear", "()Z"⟩
def mX5_readYear : MD := (yX5_readYear, prog_7_method_7_code, 3, (some .boolean))
def yX5_readSign : MethodName := ⟨RX5, "readSign", "(C)Z"⟩
def mX5_readSign : MD := (yX5_readSign, prog_7_method_8_code, 2, (some .boolean))
def yX5_readOwner : MethodName := ⟨RX5, "readOwner", "()Z"⟩
def mX5_readOwner : MD := (yX5_readOwner, prog_7_method_9_code, 3, (some .boolean))
def yX5_readQuarrel : MethodName := ⟨RX5, "readQuarrel", "()Z"⟩
def mX5_readQuarrel : MD := (yX5_readQuarrel, prog_7_method_10_code, 3, (some .boolean))
def yX6_init : MethodName := ⟨RX6, "<init>", "()V"⟩
def mX6_init : MD := (yX6_init, prog_1_method_1_code, 2, none)
def yX6_garden : MethodName := ⟨RX6, "garden", "(II)I"⟩
def mX6_garden : MD := (yX6_garden, prog_1_method_2_code, 3, (some .int))
def yX6_of : MethodName := ⟨RX6, "of", "(II)I"⟩
def mX6_of : MD := (yX6_of, prog_1_method_3_code, 3, (some .int))
def yX6_wall : MethodName := ⟨RX6, "wall", "(II)I"⟩
def mX6_wall : MD := (yX6_wall, prog_1_method_4_code, 3, (some .int))
def yX6_noise : MethodName := ⟨RX6, "noise", "(II)I"⟩
def mX6_noise : MD := (yX6_noise, prog_1_method_5_code, 4, (some .int))
def yX6_rule : MethodName := ⟨RX6, "rule", "(II)I"⟩
def mX6_rule : MD := (yX6_rule, prog_1_method_6_code, 4, (some .int))
def yX6_type : MethodName := ⟨RX6, "type", "(I)I"⟩
def mX6_type : MD := (yX6_type, prog_1_method_7_code, 2, (some .int))
def yX6_street : MethodName := ⟨RX6, "street", "()I"⟩
def mX6_street : MD := (yX6_street, prog_1_method_8_code, 2, (some .int))
def yX6_count : MethodName := ⟨RX6, "count", "(I)I"⟩
def mX6_count : MD := (yX6_count, prog_1_method_9_code, 2, (some .int))
def yX6_weeks : MethodName := ⟨RX6, "weeks", "(I)I"⟩
def mX6_weeks : MD := (yX6_weeks, prog_1_method_10_code, 4, (some .int))
def yX6_sorry : MethodName := ⟨RX6, "\x73orry", "(I)I"⟩
def mX6_sorry : MD := (yX6_sorry, prog_1_method_11_code, 2, (some .int))
def yX6_gift : MethodName := ⟨RX6, "gift", "(III)I"⟩
def mX6_gift : MD := (yX6_gift, prog_1_method_12_code, 4, (some .int))
def yX6_gossip : MethodName := ⟨RX6, "gossip", "(II)I"⟩
def mX6_gossip : MD := (yX6_gossip, prog_1_method_13_code, 3, (some .int))
def yX6_lovers : MethodName := ⟨RX6, "lovers", "(I)I"⟩
def mX6_lovers : MD := (yX6_lovers, prog_1_method_14_code, 2, (some .int))
def yX6_falls : MethodName := ⟨RX6, "falls", "(I)I"⟩
def mX6_falls : MD := (yX6_falls, prog_1_method_15_code, 2, (some .int))
def yX6_drift : MethodName := ⟨RX6, "drift", "(I)I"⟩
def mX6_drift : MD := (yX6_drift, prog_1_method_16_code, 5, (some .int))
def yX6_undo : MethodName := ⟨RX6, "undo", "()I"⟩
def mX6_undo : MD := (yX6_undo, prog_1_method_17_code, 1, (some .int))
def yX6_seed : MethodName := ⟨RX6, "seed", "(I)I"⟩
def mX6_seed : MD := (yX6_seed, prog_1_method_18_code, 3, (some .int))
def yX6_ahead : MethodName := ⟨RX6, "ahead", "(III)I"⟩
def mX6_ahead : MD := (yX6_ahead, prog_1_method_19_code, 5, (some .int))
def yX6_settles : MethodName := ⟨RX6, "settles", "()I"⟩
def mX6_settles : MD := (yX6_settles, prog_1_method_20_code, 1, (some .int))
def yX6_leastGift : MethodName := ⟨RX6, "leastGift", "(II)I"⟩
def mX6_leastGift : MD := (yX6_leastGift, prog_1_method_21_code, 3, (some .int))
def yX6_sorries : MethodName := ⟨RX6, "sorries", "(II)I"⟩
def mX6_sorries : MD := (yX6_sorries, prog_1_method_22_code, 4, (some .int))
def yX6_stir : MethodName := ⟨RX6, "stir", "(II)I"⟩
def mX6_stir : MD := (yX6_stir, prog_1_method_23_code, 4, (some .int))
def yX6_holds : MethodName := ⟨RX6, "holds", "(I)I"⟩
def mX6_holds : MD := (yX6_holds, prog_1_method_24_code, 2, (some .int))
def yX6_image : MethodName := ⟨RX6, "image", "()I"⟩
def mX6_image : MD := (yX6_image, prog_1_method_25_code, 1, (some .int))
def yX6_restore : MethodName := ⟨RX6, "restore", "()I"⟩
def mX6_restore : MD := (yX6_restore, prog_1_method_26_code, 1, (some .int))
def yX6_seen : MethodName := ⟨RX6, "seen", "(IIIIII)I"⟩
def mX6_seen : MD := (yX6_seen, prog_1_method_27_code, 8, (some .int))
def yX6_film : MethodName := ⟨RX6, "film", "(IIIII)I"⟩
def mX6_film : MD := (yX6_film, prog_1_method_28_code, 8, (some .int))
def yX6_sheet : MethodName := ⟨RX6, "sheet", "(III)I"⟩
def mX6_sheet : MD := (yX6_sheet, prog_1_method_29_code, 4, (some .int))
def yX6_drop : MethodName := ⟨RX6, "drop", "(I)I"⟩
def mX6_drop : MD := (yX6_drop, prog_1_method_30_code, 2, (some .int))
def yX6_item : MethodName := ⟨RX6, "item", "(IIIJ)I"⟩
def mX6_item : MD := (yX6_item, prog_1_method_31_code, 7, (some .int))
def yX6_copy : MethodName := ⟨RX6, "copy", "(IIIII)I"⟩
def mX6_copy : MD := (yX6_copy, prog_1_method_32_code, 6, (some .int))
def yX6_refusalOfWeeks : MethodName := ⟨RX6, "refusalOfWeeks", "(I)I"⟩
def mX6_refusalOfWeeks : MD := (yX6_refusalOfWeeks, prog_1_method_33_code, 2, (some .int))
def yX6_within : MethodName := ⟨RX6, "within", "(III)Z"⟩
def mX6_within : MD := (yX6_within, prog_1_method_34_code, 3, (some .boolean))
def yX6_isSheet : MethodName := ⟨RX6, "isSheet", "(I)Z"⟩
def mX6_isSheet : MD := (yX6_isSheet, prog_1_method_35_code, 1, (some .boolean))
def yX6_isLane : MethodName := ⟨RX6, "isLane", "(I)Z"⟩
def mX6_isLane : MD := (yX6_isLane, prog_1_method_36_code, 1, (some .boolean))
def yX6_asQuarrel : MethodName := ⟨RX6, "asQuarrel", "(I)I"⟩
def mX6_asQuarrel : MD := (yX6_asQuarrel, prog_1_method_37_code, 1, (some .int))
def yX6_coursesFor : MethodName := ⟨RX6, "coursesFor", "(I)I"⟩
def mX6_coursesFor : MD := (yX6_coursesFor, prog_1_method_38_code, 1, (some .int))
def yX6_lessAThird : MethodName := ⟨RX6, "lessAThird", "(I)I"⟩
def mX6_lessAThird : MD := (yX6_lessAThird, prog_1_method_39_code, 1, (some .int))
def yX6_rootOf : MethodName := ⟨RX6, "rootOf", "(I)I"⟩
def mX6_rootOf : MD := (yX6_rootOf, prog_1_method_40_code, 3, (some .int))
def yX6_sum : MethodName := ⟨RX6, "sum", "([II)I"⟩
def mX6_sum : MD := (yX6_sum, prog_1_method_41_code, 4, (some .int))
def yX7_init : MethodName := ⟨RX7, "<init>", "()V"⟩
def mX7_init : MD := (yX7_init, prog_9_method_1_code, 2, none)
def yX7_in : MethodName := ⟨RX7, "in", "(JJJ)Z"⟩
def mX7_in : MD := (yX7_in, prog_9_method_3_code, 6, (some .boolean))
def yX7_has : MethodName := ⟨RX7, "has", "(II)Z"⟩
def mX7_has : MD := (yX7_has, prog_9_method_4_code, 2, (some .boolean))
def yX7_bits : MethodName := ⟨RX7, "bits", "(I)I"⟩
def mX7_bits : MD := (yX7_bits, prog_9_method_5_code, 3, (some .int))
def yX7_copies : MethodName := ⟨RX7, "copies", "([II[III)V"⟩
def mX7_copies : MD := (yX7_copies, prog_9_method_6_code, 6, none)
def yX7_begins : MethodName := ⟨RX7, "begins", "([IIII)V"⟩
def mX7_begins : MD := (yX7_begins, prog_9_method_7_code, 5, none)
def yX7_isGarden : MethodName := ⟨RX7, "isGarden", "(I)Z"⟩
def mX7_isGarden : MD := (yX7_isGarden, prog_9_method_8_code, 2, (some .boolean))
def yX7_isWall : MethodName := ⟨RX7, "isWall", "(I)Z"⟩
def mX7_isWall : MD := (yX7_isWall, prog_9_method_9_code, 2, (some .boolean))
def yX7_isTwo : MethodName := ⟨RX7, "isTwo", "(I)Z"⟩
def mX7_isTwo : MD := (yX7_isTwo, prog_9_method_10_code, 1, (some .boolean))
def yX7_galls : MethodName := ⟨RX7, "galls", "([IIII)I"⟩
def mX7_galls : MD := (yX7_galls, prog_9_method_11_code, 6, (some .int))
def yX7_grows : MethodName := ⟨RX7, "grows", "([II)I"⟩
def mX7_grows : MD := (yX7_grows, prog_9_method_12_code, 2, (some .int))
def yX7_bound : MethodName := ⟨RX7, "bound", "(I)I"⟩
def mX7_bound : MD := (yX7_bound, prog_9_method_13_code, 1, (some .int))
def yX7_michaelmas : MethodName := ⟨RX7, "michaelmas", "([I)Z"⟩
def mX7_michaelmas : MD := (yX7_michaelmas, prog_9_method_14_code, 6, (some .boolean))
def yX7_goes : MethodName := ⟨RX7, "goes", "([I)Z"⟩
def mX7_goes : MD := (yX7_goes, prog_9_method_15_code, 2, (some .boolean))
def yX7_sumOf : MethodName := ⟨RX7, "sumOf", "([III)I"⟩
def mX7_sumOf : MD := (yX7_sumOf, prog_9_method_16_code, 5, (some .int))
def yX7_coursesOf : MethodName := ⟨RX7, "coursesOf", "([I)I"⟩
def mX7_coursesOf : MD := (yX7_coursesOf, prog_9_method_17_code, 1, (some .int))
def yX7_until : MethodName := ⟨RX7, "until", "()I"⟩
def mX7_until : MD := (yX7_until, prog_9_method_18_code, 1, (some .int))
def yX7_waits : MethodName := ⟨RX7, "waits", "(I)I"⟩
def mX7_waits : MD := (yX7_waits, prog_9_method_19_code, 3, (some .int))
def yX7_maySorry : MethodName := ⟨RX7, "maySorry", "()I"⟩
def mX7_maySorry : MD := (yX7_maySorry, prog_9_method_20_code, 3, (some .int))
def yX7_sees : MethodName := ⟨RX7, "sees", "(I)I"⟩
def mX7_sees : MD := (yX7_sees, prog_9_method_21_code, 4, (some .int))
def yX7_garden : MethodName := ⟨RX7, "garden", "(II)I"⟩
def mX7_garden : MD := (yX7_garden, prog_9_method_22_code, 4, (some .int))
def yX7_of : MethodName := ⟨RX7, "of", "(II)I"⟩
def mX7_of : MD := (yX7_of, prog_9_method_23_code, 3, (some .int))
def yX7_wall : MethodName := ⟨RX7, "wall", "(II)I"⟩
def mX7_wall : MD := (yX7_wall, prog_9_method_24_code, 3, (some .int))
def yX7_becomes : MethodName := ⟨RX7, "becomes", "(II)I"⟩
def mX7_becomes : MD := (yX7_becomes, prog_9_method_25_code, 4, (some .int))
def yX7_noise : MethodName := ⟨RX7, "noise", "(II)I"⟩
def mX7_noise : MD := (yX7_noise, prog_9_method_26_code, 3, (some .int))
def yX7_rule : MethodName := ⟨RX7, "rule", "(II)I"⟩
def mX7_rule : MD := (yX7_rule, prog_9_method_27_code, 4, (some .int))
def yX7_type : MethodName := ⟨RX7, "type", "(I)I"⟩
def mX7_type : MD := (yX7_type, prog_9_method_28_code, 2, (some .int))
def yX7_here : MethodName := ⟨RX7, "here", "()I"⟩
def mX7_here : MD := (yX7_here, prog_9_method_29_code, 1, (some .int))
def yX7_isFigure : MethodName := ⟨RX7, "isFigure", "()Z"⟩
def mX7_isFigure : MD := (yX7_isFigure, prog_9_method_30_code, 1, (some .boolean))
def yX7_readsYear : MethodName := ⟨RX7, "readsYear", "()Z"⟩
def mX7_readsYear : MD := (yX7_readsYear, prog_9_method_31_code, 3, (some .boolean))
def yX7_kindOf : MethodName := ⟨RX7, "kindOf", "(I)I"⟩
def mX7_kindOf : MD := (yX7_kindOf, prog_9_method_32_code, 1, (some .int))
def yX7_readsGarden : MethodName := ⟨RX7, "readsGarden", "()Z"⟩
def mX7_readsGarden : MD := (yX7_readsGarden, prog_9_method_33_code, 4, (some .boolean))
def yX7_readsQuarrel : MethodName := ⟨RX7, "readsQuarrel", "(I)Z"⟩
def mX7_readsQuarrel : MD := (yX7_readsQuarrel, prog_9_method_34_code, 5, (some .boolean))
def yX7_reads : MethodName := ⟨RX7, "reads", "()Z"⟩
def mX7_reads : MD := (yX7_reads, prog_9_method_35_code, 1, (some .boolean))
def yX7_street : MethodName := ⟨RX7, "street", "()I"⟩
def mX7_street : MD := (yX7_street, prog_9_method_36_code, 2, (some .int))
def yX7_count : MethodName := ⟨RX7, "count", "(I)I"⟩
def mX7_count : MD := (yX7_count, prog_9_method_37_code, 2, (some .int))
def yX7_remember : MethodName := ⟨RX7, "remember", "()V"⟩
def mX7_remember : MD := (yX7_remember, prog_9_method_38_code, 2, none)
def yX7_weeks : MethodName := ⟨RX7, "weeks", "(I)I"⟩
def mX7_weeks : MD := (yX7_weeks, prog_9_method_39_code, 4, (some .int))
def yX7_sorries0 : MethodName := ⟨RX7, "sorries0", "([II)V"⟩
def mX7_sorries0 : MD := (yX7_sorries0, prog_9_method_40_code, 2, none)
def yX7_sorry : MethodName := ⟨RX7, "\x73orry", "(I)I"⟩
def mX7_sorry : MD := (yX7_sorry, prog_9_method_41_code, 2, (some .int))
def yX7_root : MethodName := ⟨RX7, "root", "(I)I"⟩
def mX7_root : MD := (yX7_root, prog_9_method_42_code, 2, (some .int))
def yX7_gift : MethodName := ⟨RX7, "gift", "(III)I"⟩
def mX7_gift : MD := (yX7_gift, prog_9_method_43_code, 4, (some .int))
def yX7_gossip : MethodName := ⟨RX7, "gossip", "(II)I"⟩
def mX7_gossip : MD := (yX7_gossip, prog_9_method_44_code, 3, (some .int))
def yX7_lovers : MethodName := ⟨RX7, "lovers", "(I)I"⟩
def mX7_lovers : MD := (yX7_lovers, prog_9_method_45_code, 2, (some .int))
def yX7_fall : MethodName := ⟨RX7, "fall", "(I)V"⟩
def mX7_fall : MD := (yX7_fall, prog_9_method_46_code, 2, none)
def yX7_falls : MethodName := ⟨RX7, "falls", "(I)I"⟩
def mX7_falls : MD := (yX7_falls, prog_9_method_47_code, 3, (some .int))
def yX7_drift : MethodName := ⟨RX7, "drift", "(I)I"⟩
def mX7_drift : MD := (yX7_drift, prog_9_method_48_code, 6, (some .int))
def yX7_undo : MethodName := ⟨RX7, "undo", "()I"⟩
def mX7_undo : MD := (yX7_undo, prog_9_method_49_code, 2, (some .int))
def yX7_seed : MethodName := ⟨RX7, "seed", "(I)I"⟩
def mX7_seed : MD := (yX7_seed, prog_9_method_50_code, 2, (some .int))
def yX7_layAside : MethodName := ⟨RX7, "layAside", "()V"⟩
def mX7_layAside : MD := (yX7_layAside, prog_9_method_51_code, 1, none)
def yX7_go : MethodName := ⟨RX7, "go", "(I)V"⟩
def mX7_go : MD := (yX7_go, prog_9_method_52_code, 4, none)
def yX7_ahead : MethodName := ⟨RX7, "ahead", "(III)I"⟩
def mX7_ahead : MD := (yX7_ahead, prog_9_method_53_code, 5, (some .int))
def yX7_settles : MethodName := ⟨RX7, "settles", "()I"⟩
def mX7_settles : MD := (yX7_settles, prog_9_method_54_code, 2, (some .int))
def yX7_leastGift : MethodName := ⟨RX7, "leastGift", "(II)I"⟩
def mX7_leastGift : MD := (yX7_leastGift, prog_9_method_55_code, 4, (some .int))
def yX7_sorries : MethodName := ⟨RX7, "sorries", "(II)I"⟩
def mX7_sorries : MD := (yX7_sorries, prog_9_method_56_code, 9, (some .int))
def yX7_stir : MethodName := ⟨RX7, "stir", "(II)I"⟩
def mX7_stir : MD := (yX7_stir, prog_9_method_57_code, 7, (some .int))
def yX7_holds : MethodName := ⟨RX7, "holds", "(I)I"⟩
def mX7_holds : MD := (yX7_holds, prog_9_method_58_code, 5, (some .int))
def yX7_image : MethodName := ⟨RX7, "image", "()I"⟩
def mX7_image : MD := (yX7_image, prog_9_method_59_code, 1, (some .int))
def yX7_restore : MethodName := ⟨RX7, "restore", "()I"⟩
def mX7_restore : MD := (yX7_restore, prog_9_method_60_code, 1, (some .int))
def yX7_isSheet : MethodName := ⟨RX7, "isSheet", "(II)Z"⟩
def mX7_isSheet : MD := (yX7_isSheet, prog_9_method_61_code, 2, (some .boolean))
def yX7_found : MethodName := ⟨RX7, "found", "(IIII)I"⟩
def mX7_found : MD := (yX7_found, prog_9_method_62_code, 5, (some .int))
def yX7_cut : MethodName := ⟨RX7, "cut", "(IJ)J"⟩
def mX7_cut : MD := (yX7_cut, prog_9_method_63_code, 3, (some .long))
def yX7_seen : MethodName := ⟨RX7, "seen", "(IIIIII)I"⟩
def mX7_seen : MD := (yX7_seen, prog_9_method_64_code, 13, (some .int))
def yX7_film : MethodName := ⟨RX7, "film", "(IIIII)I"⟩
def mX7_film : MD := (yX7_film, prog_9_method_65_code, 8, (some .int))
def yX7_sheet : MethodName := ⟨RX7, "sheet", "(III)I"⟩
def mX7_sheet : MD := (yX7_sheet, prog_9_method_66_code, 5, (some .int))
def yX7_drop : MethodName := ⟨RX7, "drop", "(I)I"⟩
def mX7_drop : MD := (yX7_drop, prog_9_method_67_code, 3, (some .int))
def yX7_item : MethodName := ⟨RX7, "item", "(IIIJ)I"⟩
def mX7_item : MD := (yX7_item, prog_9_method_68_code, 7, (some .int))
def yX7_copy : MethodName := ⟨RX7, "copy", "(IIIII)I"⟩
def mX7_copy : MD := (yX7_copy, prog_9_method_69_code, 8, (some .int))
def yJ11_isValidCodePoint_9a6ad : MethodName := ⟨RJ11, "isValidCodePoint", "(I)Z"⟩
def mJ11_isValidCodePoint_9a6ad : MD := (yJ11_isValidCodePoint_9a6ad, prog_10_method_11_code, 2, (some .boolean))
def yJ11_highSurrogate_5068e : MethodName := ⟨RJ11, "highSurrogate", "(I)C"⟩
def mJ11_highSurrogate_5068e : MD := (yJ11_highSurrogate_5068e, prog_10_method_28_code, 1, (some .char))
def yJ11_lowSurrogate_5068e : MethodName := ⟨RJ11, "lowSurrogate", "(I)C"⟩
def mJ11_lowSurrogate_5068e : MD := (yJ11_lowSurrogate_5068e, prog_10_method_29_code, 1, (some .char))
def yJ6_bitCount_0f7a4 : MethodName := ⟨RJ6, "bitCount", "(I)I"⟩
def mJ6_bitCount_0f7a4 : MD := (yJ6_bitCount_0f7a4, prog_11_method_49_code, 1, (some .int))
def yJ9_max_7cf53 : MethodName := ⟨RJ9, "max", "(II)I"⟩
def mJ9_max_7cf53 : MD := (yJ9_max_7cf53, prog_12_method_65_code, 2, (some .int))
def yJ9_min_7cf53 : MethodName := ⟨RJ9, "min", "(II)I"⟩
def mJ9_min_7cf53 : MD := (yJ9_min_7cf53, prog_12_method_69_code, 2, (some .int))
def yJ0_length_8abf5 : MethodName := ⟨RJ0, "length", "()I"⟩
def mJ0_length_8abf5 : MD := (yJ0_length_8abf5, prog_13_method_54_code, 1, (some .int))
def yJ0_indexOf_0f7a4 : MethodName := ⟨RJ0, "indexOf", "(I)I"⟩
def mJ0_indexOf_0f7a4 : MD := (yJ0_indexOf_0f7a4, prog_13_method_79_code, 2, (some .int))
def yJ0_indexOf_7cf53 : MethodName := ⟨RJ0, "indexOf", "(II)I"⟩
def mJ0_indexOf_7cf53 : MD := (yJ0_indexOf_7cf53, prog_13_method_80_code, 3, (some .int))
def yJ0_coder_7d493 : MethodName := ⟨RJ0, "coder", "()B"⟩
def mJ0_coder_7d493 : MD := (yJ0_coder_7d493, prog_13_method_152_code, 1, (some .byte))
def yJ0_isLatin1_aae02 : MethodName := ⟨RJ0, "isLatin1", "()Z"⟩
def mJ0_isLatin1_aae02 : MD := (yJ0_isLatin1_aae02, prog_13_method_154_code, 1, (some .boolean))
def yJ0_checkBoundsBeginEnd_23922 : MethodName := ⟨RJ0, "checkBoundsBeginEnd", "(III)V"⟩
def mJ0_checkBoundsBeginEnd_23922 : MD := (yJ0_checkBoundsBeginEnd_23922, prog_13_method_158_code, 3, none)
def yJ1_canEncode_9a6ad : MethodName := ⟨RJ1, "canEncode", "(I)Z"⟩
def mJ1_canEncode_9a6ad : MD := (yJ1_canEncode_9a6ad, prog_14_method_4_code, 1, (some .boolean))
def yJ1_indexOf_4cfef : MethodName := ⟨RJ1, "indexOf", "([BIII)I"⟩
def mJ1_indexOf_4cfef : MD := (yJ1_indexOf_4cfef, prog_14_method_22_code, 4, (some .int))
def yJ1_indexOfChar_4cfef : MethodName := ⟨RJ1, "indexOfChar", "([BIII)I"⟩
def mJ1_indexOfChar_4cfef : MD := (yJ1_indexOfChar_4cfef, prog_14_method_23_code, 6, (some .int))
def yJ2_getChar_3b067 : MethodName := ⟨RJ2, "getChar", "([BI)C"⟩
def mJ2_getChar_3b067 : MD := (yJ2_getChar_3b067, prog_15_method_5_code, 2, (some .char))
def yJ2_length_9d52b : MethodName := ⟨RJ2, "length", "([B)I"⟩
def mJ2_length_9d52b : MD := (yJ2_length_9d52b, prog_15_method_6_code, 1, (some .int))
def yJ2_indexOf_4cfef : MethodName := ⟨RJ2, "indexOf", "([BIII)I"⟩
def mJ2_indexOf_4cfef : MD := (yJ2_indexOf_4cfef, prog_15_method_40_code, 4, (some .int))
def yJ2_indexOfChar_4cfef : MethodName := ⟨RJ2, "indexOfChar", "([BIII)I"⟩
def mJ2_indexOfChar_4cfef : MD := (yJ2_indexOfChar_4cfef, prog_15_method_47_code, 4, (some .int))
def yJ2_indexOfCharUnsafe_4cfef : MethodName := ⟨RJ2, "indexOfCharUnsafe", "([BIII)I"⟩
def mJ2_indexOfCharUnsafe_4cfef : MD := (yJ2_indexOfCharUnsafe_4cfef, prog_15_method_48_code, 5, (some .int))
def yJ2_indexOfSupplementary_4cfef : MethodName := ⟨RJ2, "indexOfSupplementary", "([BIII)I"⟩
def mJ2_indexOfSupplementary_4cfef : MD := (yJ2_indexOfSupplementary_4cfef, prog_15_method_49_code, 7, (some .int))
def yJ2_checkBoundsBeginEnd_d044e : MethodName := ⟨RJ2, "checkBoundsBeginEnd", "(II[B)V"⟩
def mJ2_checkBoundsBeginEnd_d044e : MD := (yJ2_checkBoundsBeginEnd_d044e, prog_15_method_93_code, 3, none)
def yJ3_checkFromToIndex_8c36e : MethodName := ⟨RJ3, "checkFromToIndex", "(IIILjava/util/function/BiFunction;)I"⟩
def mJ3_checkFromToIndex_8c36e : MD := (yJ3_checkFromToIndex_8c36e, prog_17_method_12_code, 4, (some .int))
def yL_law : MethodName := ⟨RL, "law", "([I)Z"⟩
def mL_law : MD := (yL_law, code, 4, some .boolean)
abbrev vwCl : List vw_C := [(RX0, TX0, 5), (RX1, TX1, 3), (RX2, TX2, 4), (RX3, TX3, 6), (RX4, TX4, 7), (RX5, TX5, 8), (RX6, TX6, 6), (RX7, TX7, 13)]
theorem laX0_0 : u_lay RX0 TX0 0 ∈ TB := TB_mem 151 (by decide +kernel) (by decide +kernel)
theorem laX0_1 : u_lay RX0 TX0 1 ∈ TB := TB_mem 153 (by decide +kernel) (by decide +kernel)
theorem laX0_2 : u_lay RX0 TX0 2 ∈ TB := TB_mem 155 (by decide +kernel) (by decide +kernel)
theorem laX0_3 : u_lay RX0 TX0 3 ∈ TB := TB_mem 157 (by decide +kernel) (by decide +kernel)
theorem laX0_4 : u_lay RX0 TX0 4 ∈ TB := TB_mem 159 (by decide +kernel) (by decide +kernel)
theorem laX0 : ∀ w ∈ u_ws RX0 TX0 5, w ∈ TB := by
  intro w hw
  obtain ⟨k, hk, rfl⟩ := List.mem_map.mp hw
  have hk := List.mem_range.mp hk
  match k, hk with
  | 0, _ => exact laX0_0
  | 1, _ => exact laX0_1
  | 2, _ => exact laX0_2
  | 3, _ => exact laX0_3
  | 4, _ => exact laX0_4
  | k + 5, hk => omega
theorem laX1_0 : u_lay RX1 TX1 0 ∈ TB := TB_mem 102 (by decide +kernel) (by decide +kernel)
theorem laX1_1 : u_lay RX1 TX1 1 ∈ TB := TB_mem 104 (by decide +kernel) (by decide +kernel)
theorem laX1_2 : u_lay RX1 TX1 2 ∈ TB := TB_mem 106 (by decide +kernel) (by decide +kernel)
theorem laX1 : ∀ w ∈ u_ws RX1 TX1 3, w ∈ TB := by
  intro w hw
  obtain ⟨k, hk, rfl⟩ := List.mem_map.mp hw
  have hk := List.mem_range.mp hk
  match k, hk with
  | 0, _ => exact laX1_0
  | 1, _ => exact laX1_1
  | 2, _ => exact laX1_2
  | k + 3, hk => omega
theorem laX2_0 : u_lay RX2 TX2 0 ∈ TB := TB_mem 216 (by decide +kernel) (by decide +kernel)
theorem laX2_1 : u_lay RX2 TX2 1 ∈ TB := TB_mem 218 (by decide +kernel) (by decide +kernel)
theorem laX2_2 : u_lay RX2 TX2 2 ∈ TB := TB_mem 220 (by decide +kernel) (by decide +kernel)
theorem laX2_3 : u_lay RX2 TX2 3 ∈ TB := TB_mem 222 (by decide +kernel) (by decide +kernel)
theorem laX2 : ∀ w ∈ u_ws RX2 TX2 4, w ∈ TB := by
  intro w hw
  obtain ⟨k, hk, rfl⟩ := List.mem_map.mp hw
  have hk := List.mem_range.mp hk
  match k, hk with
  | 0, _ => exact laX2_0
  | 1, _ => exact laX2_1
  | 2, _ => exact laX2_2
  | 3, _ => exact laX2_3
  | k + 4, hk => omega
theorem laX3_0 : u_lay RX3 TX3 0 ∈ TB := TB_mem 75 (by decide +kernel) (by decide +kernel)
theorem laX3_1 : u_lay RX3 TX3 1 ∈ TB := TB_mem 77 (by decide +kernel) (by decide +kernel)
theorem laX3_2 : u_lay RX3 TX3 2 ∈ TB := TB_mem 79 (by decide +kernel) (by decide +kernel)
theorem laX3_3 : u_lay RX3 TX3 3 ∈ TB := TB_mem 81 (by decide +kernel) (by decide +kernel)
theorem laX3_4 : u_lay RX3 TX3 4 ∈ TB := TB_mem 83 (by decide +kernel) (by decide +kernel)
theorem laX3_5 : u_lay RX3 TX3 5 ∈ TB := TB_mem 85 (by decide +kernel) (by decide +kernel)
theorem laX3 : ∀ w ∈ u_ws RX3 TX3 6, w ∈ TB := by
  intro w hw
  obtain ⟨k, hk, rfl⟩ := List.mem_map.mp hw
  have hk := List.mem_range.mp hk
  match k, hk with
  | 0, _ => exact laX3_0
  | 1, _ => exact laX3_1
  | 2, _ => exact laX3_2
  | 3, _ => exact laX3_3
  | 4, _ => exact laX3_4
  | 5, _ => exact laX3_5
  | k + 6, hk => omega
theorem laX4_0 : u_lay RX4 TX4 0 ∈ TB := TB_mem 125 (by decide +kernel) (by decide +kernel)
theorem laX4_1 : u_lay RX4 TX4 1 ∈ TB := TB_mem 127 (by decide +kernel) (by decide +kernel)
theorem laX4_2 : u_lay RX4 TX4 2 ∈ TB := TB_mem 129 (by decide +kernel) (by decide +kernel)
theorem laX4_3 : u_lay RX4 TX4 3 ∈ TB := TB_mem 131 (by decide +kernel) (by decide +kernel)
theorem laX4_4 : u_lay RX4 TX4 4 ∈ TB := TB_mem 133 (by decide +kernel) (by decide +kernel)
theorem laX4_5 : u_lay RX4 TX4 5 ∈ TB := TB_mem 135 (by decide +kernel) (by decide +kernel)
theorem laX4_6 : u_lay RX4 TX4 6 ∈ TB := TB_mem 137 (by decide +kernel) (by decide +kernel)
theorem laX4 : ∀ w ∈ u_ws RX4 TX4 7, w ∈ TB := by
  intro w hw
  obtain ⟨k, hk, rfl⟩ := List.mem_map.mp hw
  have hk := List.mem_range.mp hk
  match k, hk with
  | 0, _ => exact laX4_0
  | 1, _ => exact laX4_1
  | 2, _ => exact laX4_2
  | 3, _ => exact laX4_3
  | 4, _ => exact laX4_4
  | 5, _ => exact laX4_5
  | 6, _ => exact laX4_6
  | k + 7, hk => omega
theorem laX5_0 : u_lay RX5 TX5 0 ∈ TB := TB_mem 182 (by decide +kernel) (by decide +kernel)
theorem laX5_1 : u_lay RX5 TX5 1 ∈ TB := TB_mem 184 (by decide +kernel) (by decide +kernel)
theorem laX5_2 : u_lay RX5 TX5 2 ∈ TB := TB_mem 186 (by decide +kernel) (by decide +kernel)
theorem laX5_3 : u_lay RX5 TX5 3 ∈ TB := TB_mem 188 (by decide +kernel) (by decide +kernel)
theorem laX5_4 : u_lay RX5 TX5 4 ∈ TB := TB_mem 190 (by decide +kernel) (by decide +kernel)
theorem laX5_5 : u_lay RX5 TX5 5 ∈ TB := TB_mem 192 (by decide +kernel) (by decide +kernel)
theorem laX5_6 : u_lay RX5 TX5 6 ∈ TB := TB_mem 194 (by decide +kernel) (by decide +kernel)
theorem laX5_7 : u_lay RX5 TX5 7 ∈ TB := TB_mem 196 (by decide +kernel) (by decide +kernel)
theorem laX5 : ∀ w ∈ u_ws RX5 TX5 8, w ∈ TB := by
  intro w hw
  obtain ⟨k, hk, rfl⟩ := List.mem_map.mp hw
  have hk := List.mem_range.mp hk
  match k, hk with
  | 0, _ => exact laX5_0
  | 1, _ => exact laX5_1
  | 2, _ => exact laX5_2
  | 3, _ => exact laX5_3
  | 4, _ => exact laX5_4
  | 5, _ => exact laX5_5
  | 6, _ => exact laX5_6
  | 7, _ => exact laX5_7
  | k + 8, hk => omega
theorem laX6_0 : u_lay RX6 TX6 0 ∈ TB := TB_mem 232 (by decide +kernel) (by decide +kernel)
theorem laX6_1 : u_lay RX6 TX6 1 ∈ TB := TB_mem 234 (by decide +kernel) (by decide +kernel)
theorem laX6_2 : u_lay RX6 TX6 2 ∈ TB := TB_mem 236 (by decide +kernel) (by decide +kernel)
theorem laX6_3 : u_lay RX6 TX6 3 ∈ TB := TB_mem 238 (by decide +kernel) (by decide +kernel)
theorem laX6_4 : u_lay RX6 TX6 4 ∈ TB := TB_mem 240 (by decide +kernel) (by decide +kernel)
theorem laX6_5 : u_lay RX6 TX6 5 ∈ TB := TB_mem 242 (by decide +kernel) (by decide +kernel)
theorem laX6 : ∀ w ∈ u_ws RX6 TX6 6, w ∈ TB := by
  intro w hw
  obtain ⟨k, hk, rfl⟩ := List.mem_map.mp hw
  have hk := List.mem_range.mp hk
  match k, hk with
  | 0, _ => exact laX6_0
  | 1, _ => exact laX6_1
  | 2, _ => exact laX6_2
  | 3, _ => exact laX6_3
  | 4, _ => exact laX6_4
  | 5, _ => exact laX6_5
  | k + 6, hk => omega
theorem laX7_0 : u_lay RX7 TX7 0 ∈ TB := TB_mem 775 (by decide +kernel) (by decide +kernel)
theorem laX7_1 : u_lay RX7 TX7 1 ∈ TB := TB_mem 777 (by decide +kernel) (by decide +kernel)
theorem laX7_2 : u_lay RX7 TX7 2 ∈ TB := TB_mem 779 (by decide +kernel) (by decide +kernel)
theorem laX7_3 : u_lay RX7 TX7 3 ∈ TB := TB_mem 781 (by decide +kernel) (by decide +kernel)
theorem laX7_4 : u_lay RX7 TX7 4 ∈ TB := TB_mem 783 (by decide +kernel) (by decide +kernel)
theorem laX7_5 : u_lay RX7 TX7 5 ∈ TB := TB_mem 785 (by decide +kernel) (by decide +kernel)
theorem laX7_6 : u_lay RX7 TX7 6 ∈ TB := TB_mem 787 (by decide +kernel) (by decide +kernel)
theorem laX7_7 : u_lay RX7 TX7 7 ∈ TB := TB_mem 789 (by decide +kernel) (by decide +kernel)
theorem laX7_8 : u_lay RX7 TX7 8 ∈ TB := TB_mem 791 (by decide +kernel) (by decide +kernel)
theorem laX7_9 : u_lay RX7 TX7 9 ∈ TB := TB_mem 793 (by decide +kernel) (by decide +kernel)
theorem laX7_10 : u_lay RX7 TX7 10 ∈ TB := TB_mem 795 (by decide +kernel) (by decide +kernel)
theorem laX7_11 : u_lay RX7 TX7 11 ∈ TB := TB_mem 797 (by decide +kernel) (by decide +kernel)
theorem laX7_12 : u_lay RX7 TX7 12 ∈ TB := TB_mem 799 (by decide +kernel) (by decide +kernel)
theorem laX7 : ∀ w ∈ u_ws RX7 TX7 13, w ∈ TB := by
  intro w hw
  obtain ⟨k, hk, rfl⟩ := List.mem_map.mp hw
  have hk := List.mem_range.mp hk
  match k, hk with
  | 0, _ => exact laX7_0
  | 1, _ => exact laX7_1
  | 2, _ => exact laX7_2
  | 3, _ => exact laX7_3
  | 4, _ => exact laX7_4
  | 5, _ => exact laX7_5
  | 6, _ => exact laX7_6
  | 7, _ => exact laX7_7
  | 8, _ => exact laX7_8
  | 9, _ => exact laX7_9
  | 10, _ => exact laX7_10
  | 11, _ => exact laX7_11
  | 12, _ => exact laX7_12
  | k + 13, hk => omega
end
section
/-! links: what the tables say of the pool's entries -/
def FL (own : String) (idx c k : Nat) : Prop := ∃ q : vw_C, vwCl[c]? = some q ∧ k < q.2.2 ∧ Cond.fieldLink own idx (q.2.1 k).1 (q.2.1 k).2.1 (q.2.1 k).2.2.1 ∈ TB
def cOK (y : MD) (n : Nat) : Prop := Cond.initialized y.1.cls ∈ TB ∧ Cond.code y.1 y.2.1 y.2.2.1 y.2.2.2 ∈ TB ∧ (y.1.cls ≠ "java/lang/invoke/MethodHandle" ∧ y.1.cls ≠ "java/lang/invoke/VarHandle") ∧ (parseMethodDescriptor y.1.desc).map (fun d => d.parameters.length) = some n ∧ y.2.2.1 ≤ 18 ∧ plainName y.1.cls = true
def CS (own : String) (idx : Nat) (y : MD) (n : Nat) : Prop := Cond.methodLink own idx y.1 ∈ TB ∧ Cond.static y.1 ∈ TB ∧ cOK y n
def CV (own : String) (idx : Nat) (y : MD) (n : Nat) : Prop := Cond.methodLink own idx y.1 ∈ TB ∧ Cond.instanceMethod y.1 ∈ TB ∧ Cond.selects y.1.cls y.1 y.1 ∈ TB ∧ cOK y n
def CI (own : String) (idx : Nat) (y : MD) (n : Nat) : Prop := Cond.methodLink own idx y.1 ∈ TB ∧ Cond.instanceMethod y.1 ∈ TB ∧ y.1.name = "<init>" ∧ y.2.2.2 = none ∧ cOK y n
def isNest : Cond → Bool
  | .methodLinkNest .. => true
  | _ => false
def NW : List Cond := lw_tbl.filter isNest
theorem NW_mem {w : Cond} (i : Nat) (h : lw_tbl[i]? = some w) (hg : isNest w = true) : w ∈ NW := List.mem_filter.mpr ⟨List.mem_of_getElem? h, hg⟩
def NS (own : String) (idx : Nat) (y : MD) (n : Nat) : Prop := Cond.methodLinkNest own idx y.1 "QuarrelWalls" ∈ NW ∧ Cond.static y.1 ∈ TB ∧ cOK y n
def NI (own : String) (idx : Nat) (y : MD) (n : Nat) : Prop := Cond.methodLinkNest own idx y.1 "QuarrelWalls" ∈ NW ∧ Cond.instanceMethod y.1 ∈ TB ∧ y.1.name = "<init>" ∧ y.2.2.2 = none ∧ cOK y n
theorem okX0_init : cOK mX0_init 1 := ⟨TB_mem 24 (by decide +kernel) (by decide +kernel), TB_mem 144 (by decide +kernel) (by decide +kernel), ⟨by decide +kernel, by decide +kernel⟩, by decide +kernel, by decide +kernel, by decide +kernel⟩
theorem okX0_grown : cOK mX0_grown 4 := ⟨TB_mem 24 (by decide +kernel) (by decide +kernel), TB_mem 594 (by decide +kernel) (by decide +kernel), ⟨by decide +kernel, by decide +kernel⟩, by decide +kernel, by decide +kernel, by decide +kernel⟩
theorem okX0_behind : cOK mX0_behind 3 := ⟨TB_mem 24 (by decide +kernel) (by decide +kernel), TB_mem 589 (by decide +kernel) (by decide +kernel), ⟨by decide +kernel, by decide +kernel⟩, by decide +kernel, by decide +kernel, by decide +kernel⟩
theorem okX0_allBehind : cOK mX0_allBehind 2 := ⟨TB_mem 24 (by decide +kernel) (by decide +kernel), TB_mem 584 (by decide +kernel) (by decide +kernel), ⟨by decide +kernel, by decide +kernel⟩, by decide +kernel, by decide +kernel, by decide +kernel⟩
theorem okX0_changingMichaelmases : cOK mX0_changingMichaelmases 0 := ⟨TB_mem 24 (by decide +kernel) (by decide +kernel), TB_mem 606 (by decide +kernel) (by decide +kernel), ⟨by decide +kernel, by decide +kernel⟩, by decide +kernel, by decide +kernel, by decide +kernel⟩
theorem okX0_michaelmasChanges : cOK mX0_michaelmasChanges 1 := ⟨TB_mem 24 (by decide +kernel) (by decide +kernel), TB_mem 611 (by decide +kernel) (by decide +kernel), ⟨by decide +kernel, by decide +kernel⟩, by decide +kernel, by decide +kernel, by decide +kernel⟩
theorem okX0_coursesNext : cOK mX0_coursesNext 2 := ⟨TB_mem 24 (by decide +kernel) (by decide +kernel), TB_mem 623 (by decide +kernel) (by decide +kernel), ⟨by decide +kernel, by decide +kernel⟩, by decide +kernel, by decide +kernel, by decide +kernel⟩
theorem okX0_giftFor : cOK mX0_giftFor 2 := ⟨TB_mem 24 (by decide +kernel) (by decide +kernel), TB_mem 619 (by decide +kernel) (by decide +kernel), ⟨by decide +kernel, by decide +kernel⟩, by decide +kernel, by decide +kernel, by decide +kernel⟩
theorem okX0_weighApologies : cOK mX0_weighApologies 0 := ⟨TB_mem 24 (by decide +kernel) (by decide +kernel), TB_mem 631 (by decide +kernel) (by decide +kernel), ⟨by decide +kernel, by decide +kernel⟩, by decide +kernel, by decide +kernel, by decide +kernel⟩
theorem okX0_weighGossip : cOK mX0_weighGossip 1 := ⟨TB_mem 24 (by decide +kernel) (by decide +kernel), TB_mem 656 (by decide +kernel) (by decide +kernel), ⟨by decide +kernel, by decide +kernel⟩, by decide +kernel, by decide +kernel, by decide +kernel⟩
theorem okX0_coursesWith : cOK mX0_coursesWith 1 := ⟨TB_mem 24 (by decide +kernel) (by decide +kernel), TB_mem 641 (by decide +kernel) (by decide +kernel), ⟨by decide +kernel, by decide +kernel⟩, by decide +kernel, by decide +kernel, by decide +kernel⟩
theorem okX0_bestApologies : cOK mX0_bestApologies 1 := ⟨TB_mem 24 (by decide +kernel) (by decide +kernel), TB_mem 636 (by decide +kernel) (by decide +kernel), ⟨by decide +kernel, by decide +kernel⟩, by decide +kernel, by decide +kernel, by decide +kernel⟩
theorem okX0_bestGossip : cOK mX0_bestGossip 0 := ⟨TB_mem 24 (by decide +kernel) (by decide +kernel), TB_mem 660 (by decide +kernel) (by decide +kernel), ⟨by decide +kernel, by decide +kernel⟩, by decide +kernel, by decide +kernel, by decide +kernel⟩
theorem okX0_chanceToStand : cOK mX0_chanceToStand 1 := ⟨TB_mem 24 (by decide +kernel) (by decide +kernel), TB_mem 668 (by decide +kernel) (by decide +kernel), ⟨by decide +kernel, by decide +kernel⟩, by decide +kernel, by decide +kernel, by decide +kernel⟩
theorem okX0_howManyFit : cOK mX0_howManyFit 4 := ⟨TB_mem 24 (by decide +kernel) (by decide +kernel), TB_mem 709 (by decide +kernel) (by decide +kernel), ⟨by decide +kernel, by decide +kernel⟩, by decide +kernel, by decide +kernel, by decide +kernel⟩
theorem okX0_leastThatFits : cOK mX0_leastThatFits 4 := ⟨TB_mem 24 (by decide +kernel) (by decide +kernel), TB_mem 717 (by decide +kernel) (by decide +kernel), ⟨by decide +kernel, by decide +kernel⟩, by decide +kernel, by decide +kernel, by decide +kernel⟩
theorem okX0_fits : cOK mX0_fits 5 := ⟨TB_mem 24 (by decide +kernel) (by decide +kernel), TB_mem 713 (by decide +kernel) (by decide +kernel), ⟨by decide +kernel, by decide +kernel⟩, by decide +kernel, by decide +kernel, by decide +kernel⟩
theorem okX1_init : cOK mX1_init 0 := ⟨TB_mem 23 (by decide +kernel) (by decide +kernel), TB_mem 93 (by decide +kernel) (by decide +kernel), ⟨by decide +kernel, by decide +kernel⟩, by decide +kernel, by decide +kernel, by decide +kernel⟩
theorem okX1_become : cOK mX1_become 1 := ⟨TB_mem 23 (by decide +kernel) (by decide +kernel), TB_mem 683 (by decide +kernel) (by decide +kernel), ⟨by decide +kernel, by decide +kernel⟩, by decide +kernel, by decide +kernel, by decide +kernel⟩
theorem okX1_forget : cOK mX1_forget 0 := ⟨TB_mem 23 (by decide +kernel) (by decide +kernel), TB_mem 263 (by decide +kernel) (by decide +kernel), ⟨by decide +kernel, by decide +kernel⟩, by decide +kernel, by decide +kernel, by decide +kernel⟩
theorem okX1_add : cOK mX1_add 1 := ⟨TB_mem 23 (by decide +kernel) (by decide +kernel), TB_mem 484 (by decide +kernel) (by decide +kernel), ⟨by decide +kernel, by decide +kernel⟩, by decide +kernel, by decide +kernel, by decide +kernel⟩
theorem okX1_giveBack : cOK mX1_giveBack 1 := ⟨TB_mem 23 (by decide +kernel) (by decide +kernel), TB_mem 572 (by decide +kernel) (by decide +kernel), ⟨by decide +kernel, by decide +kernel⟩, by decide +kernel, by decide +kernel, by decide +kernel⟩
theorem okX2_init : cOK mX2_init 0 := ⟨TB_mem 26 (by decide +kernel) (by decide +kernel), TB_mem 205 (by decide +kernel) (by decide +kernel), ⟨by decide +kernel, by decide +kernel⟩, by decide +kernel, by decide +kernel, by decide +kernel⟩
theorem okX2_renew : cOK mX2_renew 2 := ⟨TB_mem 26 (by decide +kernel) (by decide +kernel), TB_mem 733 (by decide +kernel) (by decide +kernel), ⟨by decide +kernel, by decide +kernel⟩, by decide +kernel, by decide +kernel, by decide +kernel⟩
theorem okX2_has : cOK mX2_has 2 := ⟨TB_mem 26 (by decide +kernel) (by decide +kernel), TB_mem 705 (by decide +kernel) (by decide +kernel), ⟨by decide +kernel, by decide +kernel⟩, by decide +kernel, by decide +kernel, by decide +kernel⟩
theorem okX2_refusal : cOK mX2_refusal 3 := ⟨TB_mem 26 (by decide +kernel) (by decide +kernel), TB_mem 701 (by decide +kernel) (by decide +kernel), ⟨by decide +kernel, by decide +kernel⟩, by decide +kernel, by decide +kernel, by decide +kernel⟩
theorem okX2_put : cOK mX2_put 2 := ⟨TB_mem 26 (by decide +kernel) (by decide +kernel), TB_mem 725 (by decide +kernel) (by decide +kernel), ⟨by decide +kernel, by decide +kernel⟩, by decide +kernel, by decide +kernel, by decide +kernel⟩
theorem okX3_init : cOK mX3_init 0 := ⟨TB_mem 22 (by decide +kernel) (by decide +kernel), TB_mem 54 (by decide +kernel) (by decide +kernel), ⟨by decide +kernel, by decide +kernel⟩, by decide +kernel, by decide +kernel, by decide +kernel⟩
theorem okX3_become : cOK mX3_become 1 := ⟨TB_mem 22 (by decide +kernel) (by decide +kernel), TB_mem 488 (by decide +kernel) (by decide +kernel), ⟨by decide +kernel, by decide +kernel⟩, by decide +kernel, by decide +kernel, by decide +kernel⟩
theorem okX3_clearWall : cOK mX3_clearWall 1 := ⟨TB_mem 22 (by decide +kernel) (by decide +kernel), TB_mem 259 (by decide +kernel) (by decide +kernel), ⟨by decide +kernel, by decide +kernel⟩, by decide +kernel, by decide +kernel, by decide +kernel⟩
theorem okX3_weeksToApology : cOK mX3_weeksToApology 1 := ⟨TB_mem 22 (by decide +kernel) (by decide +kernel), TB_mem 306 (by decide +kernel) (by decide +kernel), ⟨by decide +kernel, by decide +kernel⟩, by decide +kernel, by decide +kernel, by decide +kernel⟩
theorem okX4_init : cOK mX4_init 0 := ⟨TB_mem 21 (by decide +kernel) (by decide +kernel), TB_mem 48 (by decide +kernel) (by decide +kernel), ⟨by decide +kernel, by decide +kernel⟩, by decide +kernel, by decide +kernel, by decide +kernel⟩
theorem okX4_become : cOK mX4_become 1 := ⟨TB_mem 21 (by decide +kernel) (by decide +kernel), TB_mem 677 (by decide +kernel) (by decide +kernel), ⟨by decide +kernel, by decide +kernel⟩, by decide +kernel, by decide +kernel, by decide +kernel⟩
theorem okX4_remember : cOK mX4_remember 0 := ⟨TB_mem 21 (by decide +kernel) (by decide +kernel), TB_mem 480 (by decide +kernel) (by decide +kernel), ⟨by decide +kernel, by decide +kernel⟩, by decide +kernel, by decide +kernel, by decide +kernel⟩
theorem okX4_walls : cOK mX4_walls 0 := ⟨TB_mem 21 (by decide +kernel) (by decide +kernel), TB_mem 298 (by decide +kernel) (by decide +kernel), ⟨by decide +kernel, by decide +kernel⟩, by decide +kernel, by decide +kernel, by decide +kernel⟩
theorem okX4_isGarden : cOK mX4_isGarden 1 := ⟨TB_mem 21 (by decide +kernel) (by decide +kernel), TB_mem 271 (by decide +kernel) (by decide +kernel), ⟨by decide +kernel, by decide +kernel⟩, by decide +kernel, by decide +kernel, by decide +kernel⟩
theorem okX4_isWall : cOK mX4_isWall 1 := ⟨TB_mem 21 (by decide +kernel) (by decide +kernel), TB_mem 294 (by decide +kernel) (by decide +kernel), ⟨by decide +kernel, by decide +kernel⟩, by decide +kernel, by decide +kernel, by decide +kernel⟩
theorem okX4_settle : cOK mX4_settle 2 := ⟨TB_mem 21 (by decide +kernel) (by decide +kernel), TB_mem 255 (by decide +kernel) (by decide +kernel), ⟨by decide +kernel, by decide +kernel⟩, by decide +kernel, by decide +kernel, by decide +kernel⟩
theorem okX4_layOut : cOK mX4_layOut 1 := ⟨TB_mem 21 (by decide +kernel) (by decide +kernel), TB_mem 449 (by decide +kernel) (by decide +kernel), ⟨by decide +kernel, by decide +kernel⟩, by decide +kernel, by decide +kernel, by decide +kernel⟩
theorem okX4_galls : cOK mX4_galls 3 := ⟨TB_mem 21 (by decide +kernel) (by decide +kernel), TB_mem 282 (by decide +kernel) (by decide +kernel), ⟨by decide +kernel, by decide +kernel⟩, by decide +kernel, by decide +kernel, by decide +kernel⟩
theorem okX4_galledBy : cOK mX4_galledBy 2 := ⟨TB_mem 21 (by decide +kernel) (by decide +kernel), TB_mem 276 (by decide +kernel) (by decide +kernel), ⟨by decide +kernel, by decide +kernel⟩, by decide +kernel, by decide +kernel, by decide +kernel⟩
theorem okX4_weekly : cOK mX4_weekly 2 := ⟨TB_mem 21 (by decide +kernel) (by decide +kernel), TB_mem 302 (by decide +kernel) (by decide +kernel), ⟨by decide +kernel, by decide +kernel⟩, by decide +kernel, by decide +kernel, by decide +kernel⟩
theorem okX4_inSight : cOK mX4_inSight 1 := ⟨TB_mem 21 (by decide +kernel) (by decide +kernel), TB_mem 286 (by decide +kernel) (by decide +kernel), ⟨by decide +kernel, by decide +kernel⟩, by decide +kernel, by decide +kernel, by decide +kernel⟩
theorem okX4_openToApology : cOK mX4_openToApology 0 := ⟨TB_mem 21 (by decide +kernel) (by decide +kernel), TB_mem 467 (by decide +kernel) (by decide +kernel), ⟨by decide +kernel, by decide +kernel⟩, by decide +kernel, by decide +kernel, by decide +kernel⟩
theorem okX4_weeksToMichaelmas : cOK mX4_weeksToMichaelmas 0 := ⟨TB_mem 21 (by decide +kernel) (by decide +kernel), TB_mem 463 (by decide +kernel) (by decide +kernel), ⟨by decide +kernel, by decide +kernel⟩, by decide +kernel, by decide +kernel, by decide +kernel⟩
theorem okX4_passWeek : cOK mX4_passWeek 0 := ⟨TB_mem 21 (by decide +kernel) (by decide +kernel), TB_mem 495 (by decide +kernel) (by decide +kernel), ⟨by decide +kernel, by decide +kernel⟩, by decide +kernel, by decide +kernel, by decide +kernel⟩
theorem okX4_assess : cOK mX4_assess 1 := ⟨TB_mem 21 (by decide +kernel) (by decide +kernel), TB_mem 510 (by decide +kernel) (by decide +kernel), ⟨by decide +kernel, by decide +kernel⟩, by decide +kernel, by decide +kernel, by decide +kernel⟩
theorem okX4_blow : cOK mX4_blow 0 := ⟨TB_mem 21 (by decide +kernel) (by decide +kernel), TB_mem 556 (by decide +kernel) (by decide +kernel), ⟨by decide +kernel, by decide +kernel⟩, by decide +kernel, by decide +kernel, by decide +kernel⟩
theorem okX4_drawNext : cOK mX4_drawNext 0 := ⟨TB_mem 21 (by decide +kernel) (by decide +kernel), TB_mem 560 (by decide +kernel) (by decide +kernel), ⟨by decide +kernel, by decide +kernel⟩, by decide +kernel, by decide +kernel, by decide +kernel⟩
theorem okX4_vary : cOK mX4_vary 2 := ⟨TB_mem 21 (by decide +kernel) (by decide +kernel), TB_mem 500 (by decide +kernel) (by decide +kernel), ⟨by decide +kernel, by decide +kernel⟩, by decide +kernel, by decide +kernel, by decide +kernel⟩
theorem okX4_apologise : cOK mX4_apologise 1 := ⟨TB_mem 21 (by decide +kernel) (by decide +kernel), TB_mem 521 (by decide +kernel) (by decide +kernel), ⟨by decide +kernel, by decide +kernel⟩, by decide +kernel, by decide +kernel, by decide +kernel⟩
theorem okX4_collapse : cOK mX4_collapse 1 := ⟨TB_mem 21 (by decide +kernel) (by decide +kernel), TB_mem 548 (by decide +kernel) (by decide +kernel), ⟨by decide +kernel, by decide +kernel⟩, by decide +kernel, by decide +kernel, by decide +kernel⟩
theorem okX5_init : cOK mX5_init 0 := ⟨TB_mem 25 (by decide +kernel) (by decide +kernel), TB_mem 166 (by decide +kernel) (by decide +kernel), ⟨by decide +kernel, by decide +kernel⟩, by decide +kernel, by decide +kernel, by decide +kernel⟩
theorem okX5_write : cOK mX5_write 1 := ⟨TB_mem 25 (by decide +kernel) (by decide +kernel), TB_mem 325 (by decide +kernel) (by decide +kernel), ⟨by decide +kernel, by decide +kernel⟩, by decide +kernel, by decide +kernel, by decide +kernel⟩
theorem okX5_parse : cOK mX5_parse 0 := ⟨TB_mem 25 (by decide +kernel) (by decide +kernel), TB_mem 333 (by decide +kernel) (by decide +kernel), ⟨by decide +kernel, by decide +kernel⟩, by decide +kernel, by decide +kernel, by decide +kernel⟩
theorem okX5_atEnd : cOK mX5_atEnd 0 := ⟨TB_mem 25 (by decide +kernel) (by decide +kernel), TB_mem 345 (by decide +kernel) (by decide +kernel), ⟨by decide +kernel, by decide +kernel⟩, by decide +kernel, by decide +kernel, by decide +kernel⟩
theorem okX5_isDigit : cOK mX5_isDigit 0 := ⟨TB_mem 25 (by decide +kernel) (by decide +kernel), TB_mem 349 (by decide +kernel) (by decide +kernel), ⟨by decide +kernel, by decide +kernel⟩, by decide +kernel, by decide +kernel, by decide +kernel⟩
theorem okX5_readDigit : cOK mX5_readDigit 0 := ⟨TB_mem 25 (by decide +kernel) (by decide +kernel), TB_mem 341 (by decide +kernel) (by decide +kernel), ⟨by decide +kernel, by decide +kernel⟩, by decide +kernel, by decide +kernel, by decide +kernel⟩
theorem okX5_readYear : cOK mX5_readYear 0 := ⟨TB_mem 25 (by decide +kernel) (by decide +kernel), TB_mem 337 (by decide +kernel) (by decide +kernel), ⟨by decide +kernel, by decide +kernel⟩, by decide +kernel, by decide +kernel, by decide +kernel⟩
theorem okX5_readSign : cOK mX5_readSign 1 := ⟨TB_mem 25 (by decide +kernel) (by decide +kernel), TB_mem 354 (by decide +kernel) (by decide +kernel), ⟨by decide +kernel, by decide +kernel⟩, by decide +kernel, by decide +kernel, by decide +kernel⟩
theorem okX5_readOwner : cOK mX5_readOwner 0 := ⟨TB_mem 25 (by decide +kernel) (by decide +kernel), TB_mem 358 (by decide +kernel) (by decide +kernel), ⟨by decide +kernel, by decide +kernel⟩, by decide +kernel, by decide +kernel, by decide +kernel⟩
theorem okX5_readQuarrel : cOK mX5_readQuarrel 0 := ⟨TB_mem 25 (by decide +kernel) (by decide +kernel), TB_mem 445 (by decide +kernel) (by decide +kernel), ⟨by decide +kernel, by decide +kernel⟩, by decide +kernel, by decide +kernel, by decide +kernel⟩
theorem okX6_init : cOK mX6_init 0 := ⟨TB_mem 20 (by decide +kernel) (by decide +kernel), TB_mem 40 (by decide +kernel) (by decide +kernel), ⟨by decide +kernel, by decide +kernel⟩, by decide +kernel, by decide +kernel, by decide +kernel⟩
theorem okX6_garden : cOK mX6_garden 2 := ⟨TB_mem 20 (by decide +kernel) (by decide +kernel), TB_mem 248 (by decide +kernel) (by decide +kernel), ⟨by decide +kernel, by decide +kernel⟩, by decide +kernel, by decide +kernel, by decide +kernel⟩
theorem okX6_of : cOK mX6_of 2 := ⟨TB_mem 20 (by decide +kernel) (by decide +kernel), TB_mem 267 (by decide +kernel) (by decide +kernel), ⟨by decide +kernel, by decide +kernel⟩, by decide +kernel, by decide +kernel, by decide +kernel⟩
theorem okX6_wall : cOK mX6_wall 2 := ⟨TB_mem 20 (by decide +kernel) (by decide +kernel), TB_mem 290 (by decide +kernel) (by decide +kernel), ⟨by decide +kernel, by decide +kernel⟩, by decide +kernel, by decide +kernel, by decide +kernel⟩
theorem okX6_noise : cOK mX6_noise 2 := ⟨TB_mem 20 (by decide +kernel) (by decide +kernel), TB_mem 313 (by decide +kernel) (by decide +kernel), ⟨by decide +kernel, by decide +kernel⟩, by decide +kernel, by decide +kernel, by decide +kernel⟩
theorem okX6_rule : cOK mX6_rule 2 := ⟨TB_mem 20 (by decide +kernel) (by decide +kernel), TB_mem 317 (by decide +kernel) (by decide +kernel), ⟨by decide +kernel, by decide +kernel⟩, by decide +kernel, by decide +kernel, by decide +kernel⟩
theorem okX6_type : cOK mX6_type 1 := ⟨TB_mem 20 (by decide +kernel) (by decide +kernel), TB_mem 321 (by decide +kernel) (by decide +kernel), ⟨by decide +kernel, by decide +kernel⟩, by decide +kernel, by decide +kernel, by decide +kernel⟩
theorem okX6_street : cOK mX6_street 0 := ⟨TB_mem 20 (by decide +kernel) (by decide +kernel), TB_mem 329 (by decide +kernel) (by decide +kernel), ⟨by decide +kernel, by decide +kernel⟩, by decide +kernel, by decide +kernel, by decide +kernel⟩
theorem okX6_count : cOK mX6_count 1 := ⟨TB_mem 20 (by decide +kernel) (by decide +kernel), TB_mem 455 (by decide +kernel) (by decide +kernel), ⟨by decide +kernel, by decide +kernel⟩, by decide +kernel, by decide +kernel, by decide +kernel⟩
theorem okX6_weeks : cOK mX6_weeks 1 := ⟨TB_mem 20 (by decide +kernel) (by decide +kernel), TB_mem 472 (by decide +kernel) (by decide +kernel), ⟨by decide +kernel, by decide +kernel⟩, by decide +kernel, by decide +kernel, by decide +kernel⟩
theorem okX6_sorry : cOK mX6_sorry 1 := ⟨TB_mem 20 (by decide +kernel) (by decide +kernel), TB_mem 517 (by decide +kernel) (by decide +kernel), ⟨by decide +kernel, by decide +kernel⟩, by decide +kernel, by decide +kernel, by decide +kernel⟩
theorem okX6_gift : cOK mX6_gift 3 := ⟨TB_mem 20 (by decide +kernel) (by decide +kernel), TB_mem 528 (by decide +kernel) (by decide +kernel), ⟨by decide +kernel, by decide +kernel⟩, by decide +kernel, by decide +kernel, by decide +kernel⟩
theorem okX6_gossip : cOK mX6_gossip 2 := ⟨TB_mem 20 (by decide +kernel) (by decide +kernel), TB_mem 536 (by decide +kernel) (by decide +kernel), ⟨by decide +kernel, by decide +kernel⟩, by decide +kernel, by decide +kernel, by decide +kernel⟩
theorem okX6_lovers : cOK mX6_lovers 1 := ⟨TB_mem 20 (by decide +kernel) (by decide +kernel), TB_mem 540 (by decide +kernel) (by decide +kernel), ⟨by decide +kernel, by decide +kernel⟩, by decide +kernel, by decide +kernel, by decide +kernel⟩
theorem okX6_falls : cOK mX6_falls 1 := ⟨TB_mem 20 (by decide +kernel) (by decide +kernel), TB_mem 544 (by decide +kernel) (by decide +kernel), ⟨by decide +kernel, by decide +kernel⟩, by decide +kernel, by decide +kernel, by decide +kernel⟩
theorem okX6_drift : cOK mX6_drift 1 := ⟨TB_mem 20 (by decide +kernel) (by decide +kernel), TB_mem 552 (by decide +kernel) (by decide +kernel), ⟨by decide +kernel, by decide +kernel⟩, by decide +kernel, by decide +kernel, by decide +kernel⟩
theorem okX6_undo : cOK mX6_undo 0 := ⟨TB_mem 20 (by decide +kernel) (by decide +kernel), TB_mem 568 (by decide +kernel) (by decide +kernel), ⟨by decide +kernel, by decide +kernel⟩, by decide +kernel, by decide +kernel, by decide +kernel⟩
theorem okX6_seed : cOK mX6_seed 1 := ⟨TB_mem 20 (by decide +kernel) (by decide +kernel), TB_mem 576 (by decide +kernel) (by decide +kernel), ⟨by decide +kernel, by decide +kernel⟩, by decide +kernel, by decide +kernel, by decide +kernel⟩
theorem okX6_ahead : cOK mX6_ahead 3 := ⟨TB_mem 20 (by decide +kernel) (by decide +kernel), TB_mem 580 (by decide +kernel) (by decide +kernel), ⟨by decide +kernel, by decide +kernel⟩, by decide +kernel, by decide +kernel, by decide +kernel⟩
theorem okX6_settles : cOK mX6_settles 0 := ⟨TB_mem 20 (by decide +kernel) (by decide +kernel), TB_mem 602 (by decide +kernel) (by decide +kernel), ⟨by decide +kernel, by decide +kernel⟩, by decide +kernel, by decide +kernel, by decide +kernel⟩
theorem okX6_leastGift : cOK mX6_leastGift 2 := ⟨TB_mem 20 (by decide +kernel) (by decide +kernel), TB_mem 615 (by decide +kernel) (by decide +kernel), ⟨by decide +kernel, by decide +kernel⟩, by decide +kernel, by decide +kernel, by decide +kernel⟩
theorem okX6_sorries : cOK mX6_sorries 2 := ⟨TB_mem 20 (by decide +kernel) (by decide +kernel), TB_mem 627 (by decide +kernel) (by decide +kernel), ⟨by decide +kernel, by decide +kernel⟩, by decide +kernel, by decide +kernel, by decide +kernel⟩
theorem okX6_stir : cOK mX6_stir 2 := ⟨TB_mem 20 (by decide +kernel) (by decide +kernel), TB_mem 652 (by decide +kernel) (by decide +kernel), ⟨by decide +kernel, by decide +kernel⟩, by decide +kernel, by decide +kernel, by decide +kernel⟩
theorem okX6_holds : cOK mX6_holds 1 := ⟨TB_mem 20 (by decide +kernel) (by decide +kernel), TB_mem 664 (by decide +kernel) (by decide +kernel), ⟨by decide +kernel, by decide +kernel⟩, by decide +kernel, by decide +kernel, by decide +kernel⟩
theorem okX6_image : cOK mX6_image 0 := ⟨TB_mem 20 (by decide +kernel) (by decide +kernel), TB_mem 673 (by decide +kernel) (by decide +kernel), ⟨by decide +kernel, by decide +kernel⟩, by decide +kernel, by decide +kernel, by decide +kernel⟩
theorem okX6_restore : cOK mX6_restore 0 := ⟨TB_mem 20 (by decide +kernel) (by decide +kernel), TB_mem 687 (by decide +kernel) (by decide +kernel), ⟨by decide +kernel, by decide +kernel⟩, by decide +kernel, by decide +kernel, by decide +kernel⟩
theorem okX6_seen : cOK mX6_seen 6 := ⟨TB_mem 20 (by decide +kernel) (by decide +kernel), TB_mem 691 (by decide +kernel) (by decide +kernel), ⟨by decide +kernel, by decide +kernel⟩, by decide +kernel, by decide +kernel, by decide +kernel⟩
theorem okX6_film : cOK mX6_film 5 := ⟨TB_mem 20 (by decide +kernel) (by decide +kernel), TB_mem 721 (by decide +kernel) (by decide +kernel), ⟨by decide +kernel, by decide +kernel⟩, by decide +kernel, by decide +kernel, by decide +kernel⟩
theorem okX6_sheet : cOK mX6_sheet 3 := ⟨TB_mem 20 (by decide +kernel) (by decide +kernel), TB_mem 729 (by decide +kernel) (by decide +kernel), ⟨by decide +kernel, by decide +kernel⟩, by decide +kernel, by decide +kernel, by decide +kernel⟩
theorem okX6_drop : cOK mX6_drop 1 := ⟨TB_mem 20 (by decide +kernel) (by decide +kernel), TB_mem 737 (by decide +kernel) (by decide +kernel), ⟨by decide +kernel, by decide +kernel⟩, by decide +kernel, by decide +kernel, by decide +kernel⟩
theorem okX6_item : cOK mX6_item 4 := ⟨TB_mem 20 (by decide +kernel) (by decide +kernel), TB_mem 741 (by decide +kernel) (by decide +kernel), ⟨by decide +kernel, by decide +kernel⟩, by decide +kernel, by decide +kernel, by decide +kernel⟩
theorem okX6_copy : cOK mX6_copy 5 := ⟨TB_mem 20 (by decide +kernel) (by decide +kernel), TB_mem 745 (by decide +kernel) (by decide +kernel), ⟨by decide +kernel, by decide +kernel⟩, by decide +kernel, by decide +kernel, by decide +kernel⟩
theorem okX6_refusalOfWeeks : cOK mX6_refusalOfWeeks 1 := ⟨TB_mem 20 (by decide +kernel) (by decide +kernel), TB_mem 476 (by decide +kernel) (by decide +kernel), ⟨by decide +kernel, by decide +kernel⟩, by decide +kernel, by decide +kernel, by decide +kernel⟩
theorem okX6_within : cOK mX6_within 3 := ⟨TB_mem 20 (by decide +kernel) (by decide +kernel), TB_mem 251 (by decide +kernel) (by decide +kernel), ⟨by decide +kernel, by decide +kernel⟩, by decide +kernel, by decide +kernel, by decide +kernel⟩
theorem okX6_isSheet : cOK mX6_isSheet 1 := ⟨TB_mem 20 (by decide +kernel) (by decide +kernel), TB_mem 694 (by decide +kernel) (by decide +kernel), ⟨by decide +kernel, by decide +kernel⟩, by decide +kernel, by decide +kernel, by decide +kernel⟩
theorem okX6_isLane : cOK mX6_isLane 1 := ⟨TB_mem 20 (by decide +kernel) (by decide +kernel), TB_mem 697 (by decide +kernel) (by decide +kernel), ⟨by decide +kernel, by decide +kernel⟩, by decide +kernel, by decide +kernel, by decide +kernel⟩
theorem okX6_asQuarrel : cOK mX6_asQuarrel 1 := ⟨TB_mem 20 (by decide +kernel) (by decide +kernel), TB_mem 503 (by decide +kernel) (by decide +kernel), ⟨by decide +kernel, by decide +kernel⟩, by decide +kernel, by decide +kernel, by decide +kernel⟩
theorem okX6_coursesFor : cOK mX6_coursesFor 1 := ⟨TB_mem 20 (by decide +kernel) (by decide +kernel), TB_mem 513 (by decide +kernel) (by decide +kernel), ⟨by decide +kernel, by decide +kernel⟩, by decide +kernel, by decide +kernel, by decide +kernel⟩
theorem okX6_lessAThird : cOK mX6_lessAThird 1 := ⟨TB_mem 20 (by decide +kernel) (by decide +kernel), TB_mem 524 (by decide +kernel) (by decide +kernel), ⟨by decide +kernel, by decide +kernel⟩, by decide +kernel, by decide +kernel, by decide +kernel⟩
theorem okX6_rootOf : cOK mX6_rootOf 1 := ⟨TB_mem 20 (by decide +kernel) (by decide +kernel), TB_mem 531 (by decide +kernel) (by decide +kernel), ⟨by decide +kernel, by decide +kernel⟩, by decide +kernel, by decide +kernel, by decide +kernel⟩
theorem okX6_sum : cOK mX6_sum 2 := ⟨TB_mem 20 (by decide +kernel) (by decide +kernel), TB_mem 459 (by decide +kernel) (by decide +kernel), ⟨by decide +kernel, by decide +kernel⟩, by decide +kernel, by decide +kernel, by decide +kernel⟩
theorem okX7_init : cOK mX7_init 0 := ⟨TB_mem 27 (by decide +kernel) (by decide +kernel), TB_mem 752 (by decide +kernel) (by decide +kernel), ⟨by decide +kernel, by decide +kernel⟩, by decide +kernel, by decide +kernel, by decide +kernel⟩
theorem okX7_in : cOK mX7_in 3 := ⟨TB_mem 27 (by decide +kernel) (by decide +kernel), TB_mem 761 (by decide +kernel) (by decide +kernel), ⟨by decide +kernel, by decide +kernel⟩, by decide +kernel, by decide +kernel, by decide +kernel⟩
theorem okX7_has : cOK mX7_has 2 := ⟨TB_mem 27 (by decide +kernel) (by decide +kernel), TB_mem 1012 (by decide +kernel) (by decide +kernel), ⟨by decide +kernel, by decide +kernel⟩, by decide +kernel, by decide +kernel, by decide +kernel⟩
theorem okX7_bits : cOK mX7_bits 1 := ⟨TB_mem 27 (by decide +kernel) (by decide +kernel), TB_mem 1009 (by decide +kernel) (by decide +kernel), ⟨by decide +kernel, by decide +kernel⟩, by decide +kernel, by decide +kernel, by decide +kernel⟩
theorem okX7_copies : cOK mX7_copies 5 := ⟨TB_mem 27 (by decide +kernel) (by decide +kernel), TB_mem 894 (by decide +kernel) (by decide +kernel), ⟨by decide +kernel, by decide +kernel⟩, by decide +kernel, by decide +kernel, by decide +kernel⟩
theorem okX7_begins : cOK mX7_begins 4 := ⟨TB_mem 27 (by decide +kernel) (by decide +kernel), TB_mem 756 (by decide +kernel) (by decide +kernel), ⟨by decide +kernel, by decide +kernel⟩, by decide +kernel, by decide +kernel, by decide +kernel⟩
theorem okX7_isGarden : cOK mX7_isGarden 1 := ⟨TB_mem 27 (by decide +kernel) (by decide +kernel), TB_mem 815 (by decide +kernel) (by decide +kernel), ⟨by decide +kernel, by decide +kernel⟩, by decide +kernel, by decide +kernel, by decide +kernel⟩
theorem okX7_isWall : cOK mX7_isWall 1 := ⟨TB_mem 27 (by decide +kernel) (by decide +kernel), TB_mem 831 (by decide +kernel) (by decide +kernel), ⟨by decide +kernel, by decide +kernel⟩, by decide +kernel, by decide +kernel, by decide +kernel⟩
theorem okX7_isTwo : cOK mX7_isTwo 1 := ⟨TB_mem 27 (by decide +kernel) (by decide +kernel), TB_mem 943 (by decide +kernel) (by decide +kernel), ⟨by decide +kernel, by decide +kernel⟩, by decide +kernel, by decide +kernel, by decide +kernel⟩
theorem okX7_galls : cOK mX7_galls 4 := ⟨TB_mem 27 (by decide +kernel) (by decide +kernel), TB_mem 819 (by decide +kernel) (by decide +kernel), ⟨by decide +kernel, by decide +kernel⟩, by decide +kernel, by decide +kernel, by decide +kernel⟩
theorem okX7_grows : cOK mX7_grows 2 := ⟨TB_mem 27 (by decide +kernel) (by decide +kernel), TB_mem 835 (by decide +kernel) (by decide +kernel), ⟨by decide +kernel, by decide +kernel⟩, by decide +kernel, by decide +kernel, by decide +kernel⟩
theorem okX7_bound : cOK mX7_bound 1 := ⟨TB_mem 27 (by decide +kernel) (by decide +kernel), TB_mem 926 (by decide +kernel) (by decide +kernel), ⟨by decide +kernel, by decide +kernel⟩, by decide +kernel, by decide +kernel, by decide +kernel⟩
theorem okX7_michaelmas : cOK mX7_michaelmas 1 := ⟨TB_mem 27 (by decide +kernel) (by decide +kernel), TB_mem 929 (by decide +kernel) (by decide +kernel), ⟨by decide +kernel, by decide +kernel⟩, by decide +kernel, by decide +kernel, by decide +kernel⟩
theorem okX7_goes : cOK mX7_goes 1 := ⟨TB_mem 27 (by decide +kernel) (by decide +kernel), TB_mem 923 (by decide +kernel) (by decide +kernel), ⟨by decide +kernel, by decide +kernel⟩, by decide +kernel, by decide +kernel, by decide +kernel⟩
theorem okX7_sumOf : cOK mX7_sumOf 3 := ⟨TB_mem 27 (by decide +kernel) (by decide +kernel), TB_mem 904 (by decide +kernel) (by decide +kernel), ⟨by decide +kernel, by decide +kernel⟩, by decide +kernel, by decide +kernel, by decide +kernel⟩
theorem okX7_coursesOf : cOK mX7_coursesOf 1 := ⟨TB_mem 27 (by decide +kernel) (by decide +kernel), TB_mem 901 (by decide +kernel) (by decide +kernel), ⟨by decide +kernel, by decide +kernel⟩, by decide +kernel, by decide +kernel, by decide +kernel⟩
theorem okX7_until : cOK mX7_until 0 := ⟨TB_mem 27 (by decide +kernel) (by decide +kernel), TB_mem 908 (by decide +kernel) (by decide +kernel), ⟨by decide +kernel, by decide +kernel⟩, by decide +kernel, by decide +kernel, by decide +kernel⟩
theorem okX7_waits : cOK mX7_waits 1 := ⟨TB_mem 27 (by decide +kernel) (by decide +kernel), TB_mem 839 (by decide +kernel) (by decide +kernel), ⟨by decide +kernel, by decide +kernel⟩, by decide +kernel, by decide +kernel, by decide +kernel⟩
theorem okX7_maySorry : cOK mX7_maySorry 0 := ⟨TB_mem 27 (by decide +kernel) (by decide +kernel), TB_mem 912 (by decide +kernel) (by decide +kernel), ⟨by decide +kernel, by decide +kernel⟩, by decide +kernel, by decide +kernel, by decide +kernel⟩
theorem okX7_sees : cOK mX7_sees 1 := ⟨TB_mem 27 (by decide +kernel) (by decide +kernel), TB_mem 823 (by decide +kernel) (by decide +kernel), ⟨by decide +kernel, by decide +kernel⟩, by decide +kernel, by decide +kernel, by decide +kernel⟩
theorem okX7_garden : cOK mX7_garden 2 := ⟨TB_mem 27 (by decide +kernel) (by decide +kernel), TB_mem 805 (by decide +kernel) (by decide +kernel), ⟨by decide +kernel, by decide +kernel⟩, by decide +kernel, by decide +kernel, by decide +kernel⟩
theorem okX7_of : cOK mX7_of 2 := ⟨TB_mem 27 (by decide +kernel) (by decide +kernel), TB_mem 811 (by decide +kernel) (by decide +kernel), ⟨by decide +kernel, by decide +kernel⟩, by decide +kernel, by decide +kernel, by decide +kernel⟩
theorem okX7_wall : cOK mX7_wall 2 := ⟨TB_mem 27 (by decide +kernel) (by decide +kernel), TB_mem 827 (by decide +kernel) (by decide +kernel), ⟨by decide +kernel, by decide +kernel⟩, by decide +kernel, by decide +kernel, by decide +kernel⟩
theorem okX7_becomes : cOK mX7_becomes 2 := ⟨TB_mem 27 (by decide +kernel) (by decide +kernel), TB_mem 847 (by decide +kernel) (by decide +kernel), ⟨by decide +kernel, by decide +kernel⟩, by decide +kernel, by decide +kernel, by decide +kernel⟩
theorem okX7_noise : cOK mX7_noise 2 := ⟨TB_mem 27 (by decide +kernel) (by decide +kernel), TB_mem 843 (by decide +kernel) (by decide +kernel), ⟨by decide +kernel, by decide +kernel⟩, by decide +kernel, by decide +kernel, by decide +kernel⟩
theorem okX7_rule : cOK mX7_rule 2 := ⟨TB_mem 27 (by decide +kernel) (by decide +kernel), TB_mem 851 (by decide +kernel) (by decide +kernel), ⟨by decide +kernel, by decide +kernel⟩, by decide +kernel, by decide +kernel, by decide +kernel⟩
theorem okX7_type : cOK mX7_type 1 := ⟨TB_mem 27 (by decide +kernel) (by decide +kernel), TB_mem 857 (by decide +kernel) (by decide +kernel), ⟨by decide +kernel, by decide +kernel⟩, by decide +kernel, by decide +kernel, by decide +kernel⟩
theorem okX7_here : cOK mX7_here 0 := ⟨TB_mem 27 (by decide +kernel) (by decide +kernel), TB_mem 874 (by decide +kernel) (by decide +kernel), ⟨by decide +kernel, by decide +kernel⟩, by decide +kernel, by decide +kernel, by decide +kernel⟩
theorem okX7_isFigure : cOK mX7_isFigure 0 := ⟨TB_mem 27 (by decide +kernel) (by decide +kernel), TB_mem 880 (by decide +kernel) (by decide +kernel), ⟨by decide +kernel, by decide +kernel⟩, by decide +kernel, by decide +kernel, by decide +kernel⟩
theorem okX7_readsYear : cOK mX7_readsYear 0 := ⟨TB_mem 27 (by decide +kernel) (by decide +kernel), TB_mem 870 (by decide +kernel) (by decide +kernel), ⟨by decide +kernel, by decide +kernel⟩, by decide +kernel, by decide +kernel, by decide +kernel⟩
theorem okX7_kindOf : cOK mX7_kindOf 1 := ⟨TB_mem 27 (by decide +kernel) (by decide +kernel), TB_mem 887 (by decide +kernel) (by decide +kernel), ⟨by decide +kernel, by decide +kernel⟩, by decide +kernel, by decide +kernel, by decide +kernel⟩
theorem okX7_readsGarden : cOK mX7_readsGarden 0 := ⟨TB_mem 27 (by decide +kernel) (by decide +kernel), TB_mem 884 (by decide +kernel) (by decide +kernel), ⟨by decide +kernel, by decide +kernel⟩, by decide +kernel, by decide +kernel, by decide +kernel⟩
theorem okX7_readsQuarrel : cOK mX7_readsQuarrel 1 := ⟨TB_mem 27 (by decide +kernel) (by decide +kernel), TB_mem 891 (by decide +kernel) (by decide +kernel), ⟨by decide +kernel, by decide +kernel⟩, by decide +kernel, by decide +kernel, by decide +kernel⟩
theorem okX7_reads : cOK mX7_reads 0 := ⟨TB_mem 27 (by decide +kernel) (by decide +kernel), TB_mem 866 (by decide +kernel) (by decide +kernel), ⟨by decide +kernel, by decide +kernel⟩, by decide +kernel, by decide +kernel, by decide +kernel⟩
theorem okX7_street : cOK mX7_street 0 := ⟨TB_mem 27 (by decide +kernel) (by decide +kernel), TB_mem 862 (by decide +kernel) (by decide +kernel), ⟨by decide +kernel, by decide +kernel⟩, by decide +kernel, by decide +kernel, by decide +kernel⟩
theorem okX7_count : cOK mX7_count 1 := ⟨TB_mem 27 (by decide +kernel) (by decide +kernel), TB_mem 898 (by decide +kernel) (by decide +kernel), ⟨by decide +kernel, by decide +kernel⟩, by decide +kernel, by decide +kernel, by decide +kernel⟩
theorem okX7_remember : cOK mX7_remember 0 := ⟨TB_mem 27 (by decide +kernel) (by decide +kernel), TB_mem 920 (by decide +kernel) (by decide +kernel), ⟨by decide +kernel, by decide +kernel⟩, by decide +kernel, by decide +kernel, by decide +kernel⟩
theorem okX7_weeks : cOK mX7_weeks 1 := ⟨TB_mem 27 (by decide +kernel) (by decide +kernel), TB_mem 916 (by decide +kernel) (by decide +kernel), ⟨by decide +kernel, by decide +kernel⟩, by decide +kernel, by decide +kernel, by decide +kernel⟩
theorem okX7_sorries0 : cOK mX7_sorries0 2 := ⟨TB_mem 27 (by decide +kernel) (by decide +kernel), TB_mem 936 (by decide +kernel) (by decide +kernel), ⟨by decide +kernel, by decide +kernel⟩, by decide +kernel, by decide +kernel, by decide +kernel⟩
theorem okX7_sorry : cOK mX7_sorry 1 := ⟨TB_mem 27 (by decide +kernel) (by decide +kernel), TB_mem 933 (by decide +kernel) (by decide +kernel), ⟨by decide +kernel, by decide +kernel⟩, by decide +kernel, by decide +kernel, by decide +kernel⟩
theorem okX7_root : cOK mX7_root 1 := ⟨TB_mem 27 (by decide +kernel) (by decide +kernel), TB_mem 947 (by decide +kernel) (by decide +kernel), ⟨by decide +kernel, by decide +kernel⟩, by decide +kernel, by decide +kernel, by decide +kernel⟩
theorem okX7_gift : cOK mX7_gift 3 := ⟨TB_mem 27 (by decide +kernel) (by decide +kernel), TB_mem 940 (by decide +kernel) (by decide +kernel), ⟨by decide +kernel, by decide +kernel⟩, by decide +kernel, by decide +kernel, by decide +kernel⟩
theorem okX7_gossip : cOK mX7_gossip 2 := ⟨TB_mem 27 (by decide +kernel) (by decide +kernel), TB_mem 951 (by decide +kernel) (by decide +kernel), ⟨by decide +kernel, by decide +kernel⟩, by decide +kernel, by decide +kernel, by decide +kernel⟩
theorem okX7_lovers : cOK mX7_lovers 1 := ⟨TB_mem 27 (by decide +kernel) (by decide +kernel), TB_mem 955 (by decide +kernel) (by decide +kernel), ⟨by decide +kernel, by decide +kernel⟩, by decide +kernel, by decide +kernel, by decide +kernel⟩
theorem okX7_fall : cOK mX7_fall 1 := ⟨TB_mem 27 (by decide +kernel) (by decide +kernel), TB_mem 963 (by decide +kernel) (by decide +kernel), ⟨by decide +kernel, by decide +kernel⟩, by decide +kernel, by decide +kernel, by decide +kernel⟩
theorem okX7_falls : cOK mX7_falls 1 := ⟨TB_mem 27 (by decide +kernel) (by decide +kernel), TB_mem 959 (by decide +kernel) (by decide +kernel), ⟨by decide +kernel, by decide +kernel⟩, by decide +kernel, by decide +kernel, by decide +kernel⟩
theorem okX7_drift : cOK mX7_drift 1 := ⟨TB_mem 27 (by decide +kernel) (by decide +kernel), TB_mem 967 (by decide +kernel) (by decide +kernel), ⟨by decide +kernel, by decide +kernel⟩, by decide +kernel, by decide +kernel, by decide +kernel⟩
theorem okX7_undo : cOK mX7_undo 0 := ⟨TB_mem 27 (by decide +kernel) (by decide +kernel), TB_mem 975 (by decide +kernel) (by decide +kernel), ⟨by decide +kernel, by decide +kernel⟩, by decide +kernel, by decide +kernel, by decide +kernel⟩
theorem okX7_seed : cOK mX7_seed 1 := ⟨TB_mem 27 (by decide +kernel) (by decide +kernel), TB_mem 979 (by decide +kernel) (by decide +kernel), ⟨by decide +kernel, by decide +kernel⟩, by decide +kernel, by decide +kernel, by decide +kernel⟩
theorem okX7_layAside : cOK mX7_layAside 0 := ⟨TB_mem 27 (by decide +kernel) (by decide +kernel), TB_mem 988 (by decide +kernel) (by decide +kernel), ⟨by decide +kernel, by decide +kernel⟩, by decide +kernel, by decide +kernel, by decide +kernel⟩
theorem okX7_go : cOK mX7_go 1 := ⟨TB_mem 27 (by decide +kernel) (by decide +kernel), TB_mem 992 (by decide +kernel) (by decide +kernel), ⟨by decide +kernel, by decide +kernel⟩, by decide +kernel, by decide +kernel, by decide +kernel⟩
theorem okX7_ahead : cOK mX7_ahead 3 := ⟨TB_mem 27 (by decide +kernel) (by decide +kernel), TB_mem 983 (by decide +kernel) (by decide +kernel), ⟨by decide +kernel, by decide +kernel⟩, by decide +kernel, by decide +kernel, by decide +kernel⟩
theorem okX7_settles : cOK mX7_settles 0 := ⟨TB_mem 27 (by decide +kernel) (by decide +kernel), TB_mem 996 (by decide +kernel) (by decide +kernel), ⟨by decide +kernel, by decide +kernel⟩, by decide +kernel, by decide +kernel, by decide +kernel⟩
theorem okX7_leastGift : cOK mX7_leastGift 2 := ⟨TB_mem 27 (by decide +kernel) (by decide +kernel), TB_mem 1000 (by decide +kernel) (by decide +kernel), ⟨by decide +kernel, by decide +kernel⟩, by decide +kernel, by decide +kernel, by decide +kernel⟩
theorem okX7_sorries : cOK mX7_sorries 2 := ⟨TB_mem 27 (by decide +kernel) (by decide +kernel), TB_mem 1005 (by decide +kernel) (by decide +kernel), ⟨by decide +kernel, by decide +kernel⟩, by decide +kernel, by decide +kernel, by decide +kernel⟩
theorem okX7_stir : cOK mX7_stir 2 := ⟨TB_mem 27 (by decide +kernel) (by decide +kernel), TB_mem 1016 (by decide +kernel) (by decide +kernel), ⟨by decide +kernel, by decide +kernel⟩, by decide +kernel, by decide +kernel, by decide +kernel⟩
theorem okX7_holds : cOK mX7_holds 1 := ⟨TB_mem 27 (by decide +kernel) (by decide +kernel), TB_mem 1020 (by decide +kernel) (by decide +kernel), ⟨by decide +kernel, by decide +kernel⟩, by decide +kernel, by decide +kernel, by decide +kernel⟩
theorem okX7_image : cOK mX7_image 0 := ⟨TB_mem 27 (by decide +kernel) (by decide +kernel), TB_mem 1024 (by decide +kernel) (by decide +kernel), ⟨by decide +kernel, by decide +kernel⟩, by decide +kernel, by decide +kernel, by decide +kernel⟩
theorem okX7_restore : cOK mX7_restore 0 := ⟨TB_mem 27 (by decide +kernel) (by decide +kernel), TB_mem 1028 (by decide +kernel) (by decide +kernel), ⟨by decide +kernel, by decide +kernel⟩, by decide +kernel, by decide +kernel, by decide +kernel⟩
theorem okX7_isSheet : cOK mX7_isSheet 2 := ⟨TB_mem 27 (by decide +kernel) (by decide +kernel), TB_mem 1035 (by decide +kernel) (by decide +kernel), ⟨by decide +kernel, by decide +kernel⟩, by decide +kernel, by decide +kernel, by decide +kernel⟩
theorem okX7_found : cOK mX7_found 4 := ⟨TB_mem 27 (by decide +kernel) (by decide +kernel), TB_mem 1040 (by decide +kernel) (by decide +kernel), ⟨by decide +kernel, by decide +kernel⟩, by decide +kernel, by decide +kernel, by decide +kernel⟩
theorem okX7_cut : cOK mX7_cut 2 := ⟨TB_mem 27 (by decide +kernel) (by decide +kernel), TB_mem 1048 (by decide +kernel) (by decide +kernel), ⟨by decide +kernel, by decide +kernel⟩, by decide +kernel, by decide +kernel, by decide +kernel⟩
theorem okX7_seen : cOK mX7_seen 6 := ⟨TB_mem 27 (by decide +kernel) (by decide +kernel), TB_mem 1032 (by decide +kernel) (by decide +kernel), ⟨by decide +kernel, by decide +kernel⟩, by decide +kernel, by decide +kernel, by decide +kernel⟩
theorem okX7_film : cOK mX7_film 5 := ⟨TB_mem 27 (by decide +kernel) (by decide +kernel), TB_mem 1044 (by decide +kernel) (by decide +kernel), ⟨by decide +kernel, by decide +kernel⟩, by decide +kernel, by decide +kernel, by decide +kernel⟩
theorem okX7_sheet : cOK mX7_sheet 3 := ⟨TB_mem 27 (by decide +kernel) (by decide +kernel), TB_mem 1052 (by decide +kernel) (by decide +kernel), ⟨by decide +kernel, by decide +kernel⟩, by decide +kernel, by decide +kernel, by decide +kernel⟩
theorem okX7_drop : cOK mX7_drop 1 := ⟨TB_mem 27 (by decide +kernel) (by decide +kernel), TB_mem 1056 (by decide +kernel) (by decide +kernel), ⟨by decide +kernel, by decide +kernel⟩, by decide +kernel, by decide +kernel, by decide +kernel⟩
theorem okX7_item : cOK mX7_item 4 := ⟨TB_mem 27 (by decide +kernel) (by decide +kernel), TB_mem 1060 (by decide +kernel) (by decide +kernel), ⟨by decide +kernel, by decide +kernel⟩, by decide +kernel, by decide +kernel, by decide +kernel⟩
theorem okX7_copy : cOK mX7_copy 5 := ⟨TB_mem 27 (by decide +kernel) (by decide +kernel), TB_mem 1064 (by decide +kernel) (by decide +kernel), ⟨by decide +kernel, by decide +kernel⟩, by decide +kernel, by decide +kernel, by decide +kernel⟩
theorem okJ11_isValidCodePoint_9a6ad : cOK mJ11_isValidCodePoint_9a6ad 1 := ⟨TB_mem 33 (by decide +kernel) (by decide +kernel), TB_mem 433 (by decide +kernel) (by decide +kernel), ⟨by decide +kernel, by decide +kernel⟩, by decide +kernel, by decide +kernel, by decide +kernel⟩
theorem okJ11_highSurrogate_5068e : cOK mJ11_highSurrogate_5068e 1 := ⟨TB_mem 33 (by decide +kernel) (by decide +kernel), TB_mem 436 (by decide +kernel) (by decide +kernel), ⟨by decide +kernel, by decide +kernel⟩, by decide +kernel, by decide +kernel, by decide +kernel⟩
theorem okJ11_lowSurrogate_5068e : cOK mJ11_lowSurrogate_5068e 1 := ⟨TB_mem 33 (by decide +kernel) (by decide +kernel), TB_mem 440 (by decide +kernel) (by decide +kernel), ⟨by decide +kernel, by decide +kernel⟩, by decide +kernel, by decide +kernel, by decide +kernel⟩
theorem okJ6_bitCount_0f7a4 : cOK mJ6_bitCount_0f7a4 1 := ⟨TB_mem 35 (by decide +kernel) (by decide +kernel), TB_mem 644 (by decide +kernel) (by decide +kernel), ⟨by decide +kernel, by decide +kernel⟩, by decide +kernel, by decide +kernel, by decide +kernel⟩
theorem okJ0_length_8abf5 : cOK mJ0_length_8abf5 0 := ⟨TB_mem 29 (by decide +kernel) (by decide +kernel), TB_mem 377 (by decide +kernel) (by decide +kernel), ⟨by decide +kernel, by decide +kernel⟩, by decide +kernel, by decide +kernel, by decide +kernel⟩
theorem okJ0_indexOf_0f7a4 : cOK mJ0_indexOf_0f7a4 1 := ⟨TB_mem 29 (by decide +kernel) (by decide +kernel), TB_mem 363 (by decide +kernel) (by decide +kernel), ⟨by decide +kernel, by decide +kernel⟩, by decide +kernel, by decide +kernel, by decide +kernel⟩
theorem okJ0_indexOf_7cf53 : cOK mJ0_indexOf_7cf53 2 := ⟨TB_mem 29 (by decide +kernel) (by decide +kernel), TB_mem 367 (by decide +kernel) (by decide +kernel), ⟨by decide +kernel, by decide +kernel⟩, by decide +kernel, by decide +kernel, by decide +kernel⟩
theorem okJ0_coder_7d493 : cOK mJ0_coder_7d493 0 := ⟨TB_mem 29 (by decide +kernel) (by decide +kernel), TB_mem 381 (by decide +kernel) (by decide +kernel), ⟨by decide +kernel, by decide +kernel⟩, by decide +kernel, by decide +kernel, by decide +kernel⟩
theorem okJ0_isLatin1_aae02 : cOK mJ0_isLatin1_aae02 0 := ⟨TB_mem 29 (by decide +kernel) (by decide +kernel), TB_mem 371 (by decide +kernel) (by decide +kernel), ⟨by decide +kernel, by decide +kernel⟩, by decide +kernel, by decide +kernel, by decide +kernel⟩
theorem okJ0_checkBoundsBeginEnd_23922 : cOK mJ0_checkBoundsBeginEnd_23922 3 := ⟨TB_mem 29 (by decide +kernel) (by decide +kernel), TB_mem 410 (by decide +kernel) (by decide +kernel), ⟨by decide +kernel, by decide +kernel⟩, by decide +kernel, by decide +kernel, by decide +kernel⟩
theorem okJ1_canEncode_9a6ad : cOK mJ1_canEncode_9a6ad 1 := ⟨TB_mem 30 (by decide +kernel) (by decide +kernel), TB_mem 387 (by decide +kernel) (by decide +kernel), ⟨by decide +kernel, by decide +kernel⟩, by decide +kernel, by decide +kernel, by decide +kernel⟩
theorem okJ1_indexOf_4cfef : cOK mJ1_indexOf_4cfef 4 := ⟨TB_mem 30 (by decide +kernel) (by decide +kernel), TB_mem 384 (by decide +kernel) (by decide +kernel), ⟨by decide +kernel, by decide +kernel⟩, by decide +kernel, by decide +kernel, by decide +kernel⟩
theorem okJ1_indexOfChar_4cfef : cOK mJ1_indexOfChar_4cfef 4 := ⟨TB_mem 30 (by decide +kernel) (by decide +kernel), TB_mem 392 (by decide +kernel) (by decide +kernel), ⟨by decide +kernel, by decide +kernel⟩, by decide +kernel, by decide +kernel, by decide +kernel⟩
theorem okJ2_getChar_3b067 : cOK mJ2_getChar_3b067 2 := ⟨TB_mem 31 (by decide +kernel) (by decide +kernel), TB_mem 421 (by decide +kernel) (by decide +kernel), ⟨by decide +kernel, by decide +kernel⟩, by decide +kernel, by decide +kernel, by decide +kernel⟩
theorem okJ2_length_9d52b : cOK mJ2_length_9d52b 1 := ⟨TB_mem 31 (by decide +kernel) (by decide +kernel), TB_mem 407 (by decide +kernel) (by decide +kernel), ⟨by decide +kernel, by decide +kernel⟩, by decide +kernel, by decide +kernel, by decide +kernel⟩
theorem okJ2_indexOf_4cfef : cOK mJ2_indexOf_4cfef 4 := ⟨TB_mem 31 (by decide +kernel) (by decide +kernel), TB_mem 395 (by decide +kernel) (by decide +kernel), ⟨by decide +kernel, by decide +kernel⟩, by decide +kernel, by decide +kernel, by decide +kernel⟩
theorem okJ2_indexOfChar_4cfef : cOK mJ2_indexOfChar_4cfef 4 := ⟨TB_mem 31 (by decide +kernel) (by decide +kernel), TB_mem 401 (by decide +kernel) (by decide +kernel), ⟨by decide +kernel, by decide +kernel⟩, by decide +kernel, by decide +kernel, by decide +kernel⟩
theorem okJ2_indexOfCharUnsafe_4cfef : cOK mJ2_indexOfCharUnsafe_4cfef 4 := ⟨TB_mem 31 (by decide +kernel) (by decide +kernel), TB_mem 418 (by decide +kernel) (by decide +kernel), ⟨by decide +kernel, by decide +kernel⟩, by decide +kernel, by decide +kernel, by decide +kernel⟩
theorem okJ2_indexOfSupplementary_4cfef : cOK mJ2_indexOfSupplementary_4cfef 4 := ⟨TB_mem 31 (by decide +kernel) (by decide +kernel), TB_mem 430 (by decide +kernel) (by decide +kernel), ⟨by decide +kernel, by decide +kernel⟩, by decide +kernel, by decide +kernel, by decide +kernel⟩
theorem okJ2_checkBoundsBeginEnd_d044e : cOK mJ2_checkBoundsBeginEnd_d044e 3 := ⟨TB_mem 31 (by decide +kernel) (by decide +kernel), TB_mem 404 (by decide +kernel) (by decide +kernel), ⟨by decide +kernel, by decide +kernel⟩, by decide +kernel, by decide +kernel, by decide +kernel⟩
theorem okJ3_checkFromToIndex_8c36e : cOK mJ3_checkFromToIndex_8c36e 4 := ⟨TB_mem 32 (by decide +kernel) (by decide +kernel), TB_mem 415 (by decide +kernel) (by decide +kernel), ⟨by decide +kernel, by decide +kernel⟩, by decide +kernel, by decide +kernel, by decide +kernel⟩
theorem iniL : Cond.initialized RL ∈ TB := TB_mem 19 (by decide +kernel) (by decide +kernel)
theorem iniX6 : Cond.initialized RX6 ∈ TB := TB_mem 20 (by decide +kernel) (by decide +kernel)
theorem iniX4 : Cond.initialized RX4 ∈ TB := TB_mem 21 (by decide +kernel) (by decide +kernel)
theorem iniX3 : Cond.initialized RX3 ∈ TB := TB_mem 22 (by decide +kernel) (by decide +kernel)
theorem iniX1 : Cond.initialized RX1 ∈ TB := TB_mem 23 (by decide +kernel) (by decide +kernel)
theorem iniX0 : Cond.initialized RX0 ∈ TB := TB_mem 24 (by decide +kernel) (by decide +kernel)
theorem iniX5 : Cond.initialized RX5 ∈ TB := TB_mem 25 (by decide +kernel) (by decide +kernel)
theorem iniX2 : Cond.initialized RX2 ∈ TB := TB_mem 26 (by decide +kernel) (by decide +kernel)
theorem iniX7 : Cond.initialized RX7 ∈ TB := TB_mem 27 (by decide +kernel) (by decide +kernel)
theorem iniJ9 : Cond.initialized RJ9 ∈ TB := TB_mem 28 (by decide +kernel) (by decide +kernel)
theorem iniJ0 : Cond.initialized RJ0 ∈ TB := TB_mem 29 (by decide +kernel) (by decide +kernel)
theorem iniJ1 : Cond.initialized RJ1 ∈ TB := TB_mem 30 (by decide +kernel) (by decide +kernel)
theorem iniJ2 : Cond.initialized RJ2 ∈ TB := TB_mem 31 (by decide +kernel) (by decide +kernel)
theorem iniJ3 : Cond.initialized RJ3 ∈ TB := TB_mem 32 (by decide +kernel) (by decide +kernel)
theorem iniJ11 : Cond.initialized RJ11 ∈ TB := TB_mem 33 (by decide +kernel) (by decide +kernel)
theorem iniJ10 : Cond.initialized RJ10 ∈ TB := TB_mem 34 (by decide +kernel) (by decide +kernel)
theorem iniJ6 : Cond.initialized RJ6 ∈ TB := TB_mem 35 (by decide +kernel) (by decide +kernel)
theorem lL_7 : Cond.classLink RL 7 RX6 ∈ TB := TB_mem 36 (by decide +kernel) (by decide +kernel)
theorem inX6 : Cond.instantiable RX6 6 ∈ TB := TB_mem 37 (by decide +kernel) (by decide +kernel)
theorem kL_9 : CI RL 9 mX6_init 0 := ⟨TB_mem 38 (by decide +kernel) (by decide +kernel), TB_mem 39 (by decide +kernel) (by decide +kernel), by decide +kernel, by decide +kernel, okX6_init⟩
theorem lX6_7 : Cond.classLink RX6 7 RX4 ∈ TB := TB_mem 44 (by decide +kernel) (by decide +kernel)
theorem inX4 : Cond.instantiable RX4 7 ∈ TB := TB_mem 45 (by decide +kernel) (by decide +kernel)
theorem kX6_9 : NI RX6 9 mX4_init 0 := ⟨NW_mem 46 (by decide +kernel) (by decide +kernel), TB_mem 47 (by decide +kernel) (by decide +kernel), by decide +kernel, by decide +kernel, okX4_init⟩
theorem lX4_28 : Cond.classLink RX4 28 RX3 ∈ TB := TB_mem 50 (by decide +kernel) (by decide +kernel)
theorem inX3 : Cond.instantiable RX3 6 ∈ TB := TB_mem 51 (by decide +kernel) (by decide +kernel)
theorem kX4_30 : NI RX4 30 mX3_init 0 := ⟨NW_mem 52 (by decide +kernel) (by decide +kernel), TB_mem 53 (by decide +kernel) (by decide +kernel), by decide +kernel, by decide +kernel, okX3_init⟩
theorem fX3_9 : FL RX3 9 3 0 := ⟨(RX3, TX3, 6), rfl, by decide, TB_mem 56 (by decide +kernel) (by decide +kernel)⟩
theorem fX0_45 : FL RX0 45 3 0 := ⟨(RX3, TX3, 6), rfl, by decide, TB_mem 57 (by decide +kernel) (by decide +kernel)⟩
theorem fX6_88 : FL RX6 88 3 0 := ⟨(RX3, TX3, 6), rfl, by decide, TB_mem 58 (by decide +kernel) (by decide +kernel)⟩
theorem fX4_93 : FL RX4 93 3 0 := ⟨(RX3, TX3, 6), rfl, by decide, TB_mem 59 (by decide +kernel) (by decide +kernel)⟩
theorem fX3_15 : FL RX3 15 3 1 := ⟨(RX3, TX3, 6), rfl, by decide, TB_mem 60 (by decide +kernel) (by decide +kernel)⟩
theorem fX0_42 : FL RX0 42 3 1 := ⟨(RX3, TX3, 6), rfl, by decide, TB_mem 61 (by decide +kernel) (by decide +kernel)⟩
theorem fX6_91 : FL RX6 91 3 1 := ⟨(RX3, TX3, 6), rfl, by decide, TB_mem 62 (by decide +kernel) (by decide +kernel)⟩
theorem fX4_89 : FL RX4 89 3 1 := ⟨(RX3, TX3, 6), rfl, by decide, TB_mem 63 (by decide +kernel) (by decide +kernel)⟩
theorem fX3_18 : FL RX3 18 3 2 := ⟨(RX3, TX3, 6), rfl, by decide, TB_mem 64 (by decide +kernel) (by decide +kernel)⟩
theorem fX4_142 : FL RX4 142 3 2 := ⟨(RX3, TX3, 6), rfl, by decide, TB_mem 65 (by decide +kernel) (by decide +kernel)⟩
theorem fX3_21 : FL RX3 21 3 3 := ⟨(RX3, TX3, 6), rfl, by decide, TB_mem 66 (by decide +kernel) (by decide +kernel)⟩
theorem fX6_73 : FL RX6 73 3 3 := ⟨(RX3, TX3, 6), rfl, by decide, TB_mem 67 (by decide +kernel) (by decide +kernel)⟩
theorem fX4_66 : FL RX4 66 3 3 := ⟨(RX3, TX3, 6), rfl, by decide, TB_mem 68 (by decide +kernel) (by decide +kernel)⟩
theorem fX3_24 : FL RX3 24 3 4 := ⟨(RX3, TX3, 6), rfl, by decide, TB_mem 69 (by decide +kernel) (by decide +kernel)⟩
theorem fX4_79 : FL RX4 79 3 4 := ⟨(RX3, TX3, 6), rfl, by decide, TB_mem 70 (by decide +kernel) (by decide +kernel)⟩
theorem fX6_121 : FL RX6 121 3 4 := ⟨(RX3, TX3, 6), rfl, by decide, TB_mem 71 (by decide +kernel) (by decide +kernel)⟩
theorem fX3_28 : FL RX3 28 3 5 := ⟨(RX3, TX3, 6), rfl, by decide, TB_mem 72 (by decide +kernel) (by decide +kernel)⟩
theorem fX4_131 : FL RX4 131 3 5 := ⟨(RX3, TX3, 6), rfl, by decide, TB_mem 73 (by decide +kernel) (by decide +kernel)⟩
theorem fX6_174 : FL RX6 174 3 5 := ⟨(RX3, TX3, 6), rfl, by decide, TB_mem 74 (by decide +kernel) (by decide +kernel)⟩
theorem ac_int : Cond.arrayClass .int ∈ TB := TB_mem 88 (by decide +kernel) (by decide +kernel)
theorem lX4_35 : Cond.classLink RX4 35 RX1 ∈ TB := TB_mem 89 (by decide +kernel) (by decide +kernel)
theorem inX1 : Cond.instantiable RX1 3 ∈ TB := TB_mem 90 (by decide +kernel) (by decide +kernel)
theorem kX4_37 : CI RX4 37 mX1_init 0 := ⟨TB_mem 91 (by decide +kernel) (by decide +kernel), TB_mem 92 (by decide +kernel) (by decide +kernel), by decide +kernel, by decide +kernel, okX1_init⟩
theorem lX1_9 : Cond.classLink RX1 9 RX3 ∈ TB := TB_mem 95 (by decide +kernel) (by decide +kernel)
theorem kX1_24 : NI RX1 24 mX3_init 0 := ⟨NW_mem 97 (by decide +kernel) (by decide +kernel), TB_mem 53 (by decide +kernel) (by decide +kernel), by decide +kernel, by decide +kernel, okX3_init⟩
theorem fX1_11 : FL RX1 11 1 0 := ⟨(RX1, TX1, 3), rfl, by decide, TB_mem 98 (by decide +kernel) (by decide +kernel)⟩
theorem fX1_17 : FL RX1 17 1 1 := ⟨(RX1, TX1, 3), rfl, by decide, TB_mem 99 (by decide +kernel) (by decide +kernel)⟩
theorem fX1_21 : FL RX1 21 1 2 := ⟨(RX1, TX1, 3), rfl, by decide, TB_mem 100 (by decide +kernel) (by decide +kernel)⟩
theorem fX6_141 : FL RX6 141 1 2 := ⟨(RX1, TX1, 3), rfl, by decide, TB_mem 101 (by decide +kernel) (by decide +kernel)⟩
theorem fX4_9 : FL RX4 9 4 0 := ⟨(RX4, TX4, 7), rfl, by decide, TB_mem 109 (by decide +kernel) (by decide +kernel)⟩
theorem fX6_62 : FL RX6 62 4 0 := ⟨(RX4, TX4, 7), rfl, by decide, TB_mem 110 (by decide +kernel) (by decide +kernel)⟩
theorem fX4_15 : FL RX4 15 4 1 := ⟨(RX4, TX4, 7), rfl, by decide, TB_mem 111 (by decide +kernel) (by decide +kernel)⟩
theorem fX6_66 : FL RX6 66 4 1 := ⟨(RX4, TX4, 7), rfl, by decide, TB_mem 112 (by decide +kernel) (by decide +kernel)⟩
theorem fX4_18 : FL RX4 18 4 2 := ⟨(RX4, TX4, 7), rfl, by decide, TB_mem 113 (by decide +kernel) (by decide +kernel)⟩
theorem fX6_50 : FL RX6 50 4 2 := ⟨(RX4, TX4, 7), rfl, by decide, TB_mem 114 (by decide +kernel) (by decide +kernel)⟩
theorem fX4_22 : FL RX4 22 4 3 := ⟨(RX4, TX4, 7), rfl, by decide, TB_mem 115 (by decide +kernel) (by decide +kernel)⟩
theorem fX0_57 : FL RX0 57 4 3 := ⟨(RX4, TX4, 7), rfl, by decide, TB_mem 116 (by decide +kernel) (by decide +kernel)⟩
theorem fX6_100 : FL RX6 100 4 3 := ⟨(RX4, TX4, 7), rfl, by decide, TB_mem 117 (by decide +kernel) (by decide +kernel)⟩
theorem fX4_25 : FL RX4 25 4 4 := ⟨(RX4, TX4, 7), rfl, by decide, TB_mem 118 (by decide +kernel) (by decide +kernel)⟩
theorem fX6_103 : FL RX6 103 4 4 := ⟨(RX4, TX4, 7), rfl, by decide, TB_mem 119 (by decide +kernel) (by decide +kernel)⟩
theorem fX4_31 : FL RX4 31 4 5 := ⟨(RX4, TX4, 7), rfl, by decide, TB_mem 120 (by decide +kernel) (by decide +kernel)⟩
theorem fX0_38 : FL RX0 38 4 5 := ⟨(RX4, TX4, 7), rfl, by decide, TB_mem 121 (by decide +kernel) (by decide +kernel)⟩
theorem fX6_69 : FL RX6 69 4 5 := ⟨(RX4, TX4, 7), rfl, by decide, TB_mem 122 (by decide +kernel) (by decide +kernel)⟩
theorem fX4_38 : FL RX4 38 4 6 := ⟨(RX4, TX4, 7), rfl, by decide, TB_mem 123 (by decide +kernel) (by decide +kernel)⟩
theorem fX6_137 : FL RX6 137 4 6 := ⟨(RX4, TX4, 7), rfl, by decide, TB_mem 124 (by decide +kernel) (by decide +kernel)⟩
theorem lX6_23 : Cond.classLink RX6 23 RX0 ∈ TB := TB_mem 140 (by decide +kernel) (by decide +kernel)
theorem inX0 : Cond.instantiable RX0 5 ∈ TB := TB_mem 141 (by decide +kernel) (by decide +kernel)
theorem kX6_25 : CI RX6 25 mX0_init 1 := ⟨TB_mem 142 (by decide +kernel) (by decide +kernel), TB_mem 143 (by decide +kernel) (by decide +kernel), by decide +kernel, by decide +kernel, okX0_init⟩
theorem fX0_24 : FL RX0 24 0 0 := ⟨(RX0, TX0, 5), rfl, by decide, TB_mem 146 (by decide +kernel) (by decide +kernel)⟩
theorem fX0_9 : FL RX0 9 0 1 := ⟨(RX0, TX0, 5), rfl, by decide, TB_mem 147 (by decide +kernel) (by decide +kernel)⟩
theorem fX0_15 : FL RX0 15 0 2 := ⟨(RX0, TX0, 5), rfl, by decide, TB_mem 148 (by decide +kernel) (by decide +kernel)⟩
theorem fX0_18 : FL RX0 18 0 3 := ⟨(RX0, TX0, 5), rfl, by decide, TB_mem 149 (by decide +kernel) (by decide +kernel)⟩
theorem fX0_21 : FL RX0 21 0 4 := ⟨(RX0, TX0, 5), rfl, by decide, TB_mem 150 (by decide +kernel) (by decide +kernel)⟩
theorem lX6_32 : Cond.classLink RX6 32 RX5 ∈ TB := TB_mem 162 (by decide +kernel) (by decide +kernel)
theorem inX5 : Cond.instantiable RX5 8 ∈ TB := TB_mem 163 (by decide +kernel) (by decide +kernel)
theorem kX6_34 : NI RX6 34 mX5_init 0 := ⟨NW_mem 164 (by decide +kernel) (by decide +kernel), TB_mem 165 (by decide +kernel) (by decide +kernel), by decide +kernel, by decide +kernel, okX5_init⟩
theorem fX5_9 : FL RX5 9 5 0 := ⟨(RX5, TX5, 8), rfl, by decide, TB_mem 168 (by decide +kernel) (by decide +kernel)⟩
theorem fX5_15 : FL RX5 15 5 1 := ⟨(RX5, TX5, 8), rfl, by decide, TB_mem 169 (by decide +kernel) (by decide +kernel)⟩
theorem fX6_106 : FL RX6 106 5 1 := ⟨(RX5, TX5, 8), rfl, by decide, TB_mem 170 (by decide +kernel) (by decide +kernel)⟩
theorem fX5_19 : FL RX5 19 5 2 := ⟨(RX5, TX5, 8), rfl, by decide, TB_mem 171 (by decide +kernel) (by decide +kernel)⟩
theorem fX4_83 : FL RX4 83 5 2 := ⟨(RX5, TX5, 8), rfl, by decide, TB_mem 172 (by decide +kernel) (by decide +kernel)⟩
theorem fX5_23 : FL RX5 23 5 3 := ⟨(RX5, TX5, 8), rfl, by decide, TB_mem 173 (by decide +kernel) (by decide +kernel)⟩
theorem fX4_84 : FL RX4 84 5 3 := ⟨(RX5, TX5, 8), rfl, by decide, TB_mem 174 (by decide +kernel) (by decide +kernel)⟩
theorem fX5_26 : FL RX5 26 5 4 := ⟨(RX5, TX5, 8), rfl, by decide, TB_mem 175 (by decide +kernel) (by decide +kernel)⟩
theorem fX4_92 : FL RX4 92 5 4 := ⟨(RX5, TX5, 8), rfl, by decide, TB_mem 176 (by decide +kernel) (by decide +kernel)⟩
theorem fX5_29 : FL RX5 29 5 5 := ⟨(RX5, TX5, 8), rfl, by decide, TB_mem 177 (by decide +kernel) (by decide +kernel)⟩
theorem fX4_82 : FL RX4 82 5 5 := ⟨(RX5, TX5, 8), rfl, by decide, TB_mem 178 (by decide +kernel) (by decide +kernel)⟩
theorem fX5_32 : FL RX5 32 5 6 := ⟨(RX5, TX5, 8), rfl, by decide, TB_mem 179 (by decide +kernel) (by decide +kernel)⟩
theorem fX4_76 : FL RX4 76 5 6 := ⟨(RX5, TX5, 8), rfl, by decide, TB_mem 180 (by decide +kernel) (by decide +kernel)⟩
theorem fX5_35 : FL RX5 35 5 7 := ⟨(RX5, TX5, 8), rfl, by decide, TB_mem 181 (by decide +kernel) (by decide +kernel)⟩
theorem ac_char : Cond.arrayClass .char ∈ TB := TB_mem 199 (by decide +kernel) (by decide +kernel)
theorem lX6_39 : Cond.classLink RX6 39 RX2 ∈ TB := TB_mem 200 (by decide +kernel) (by decide +kernel)
theorem inX2 : Cond.instantiable RX2 4 ∈ TB := TB_mem 202 (by decide +kernel) (by decide +kernel)
theorem kX6_45 : NI RX6 45 mX2_init 0 := ⟨NW_mem 203 (by decide +kernel) (by decide +kernel), TB_mem 204 (by decide +kernel) (by decide +kernel), by decide +kernel, by decide +kernel, okX2_init⟩
theorem fX2_9 : FL RX2 9 2 0 := ⟨(RX2, TX2, 4), rfl, by decide, TB_mem 207 (by decide +kernel) (by decide +kernel)⟩
theorem fX0_100 : FL RX0 100 2 0 := ⟨(RX2, TX2, 4), rfl, by decide, TB_mem 208 (by decide +kernel) (by decide +kernel)⟩
theorem fX6_247 : FL RX6 247 2 0 := ⟨(RX2, TX2, 4), rfl, by decide, TB_mem 209 (by decide +kernel) (by decide +kernel)⟩
theorem fX2_15 : FL RX2 15 2 1 := ⟨(RX2, TX2, 4), rfl, by decide, TB_mem 210 (by decide +kernel) (by decide +kernel)⟩
theorem fX6_236 : FL RX6 236 2 1 := ⟨(RX2, TX2, 4), rfl, by decide, TB_mem 211 (by decide +kernel) (by decide +kernel)⟩
theorem fX2_19 : FL RX2 19 2 2 := ⟨(RX2, TX2, 4), rfl, by decide, TB_mem 212 (by decide +kernel) (by decide +kernel)⟩
theorem fX6_240 : FL RX6 240 2 2 := ⟨(RX2, TX2, 4), rfl, by decide, TB_mem 213 (by decide +kernel) (by decide +kernel)⟩
theorem fX2_23 : FL RX2 23 2 3 := ⟨(RX2, TX2, 4), rfl, by decide, TB_mem 214 (by decide +kernel) (by decide +kernel)⟩
theorem fX6_239 : FL RX6 239 2 3 := ⟨(RX2, TX2, 4), rfl, by decide, TB_mem 215 (by decide +kernel) (by decide +kernel)⟩
theorem ac_long : Cond.arrayClass .long ∈ TB := TB_mem 225 (by decide +kernel) (by decide +kernel)
theorem fX6_10 : FL RX6 10 6 0 := ⟨(RX6, TX6, 6), rfl, by decide, TB_mem 226 (by decide +kernel) (by decide +kernel)⟩
theorem fX6_16 : FL RX6 16 6 1 := ⟨(RX6, TX6, 6), rfl, by decide, TB_mem 227 (by decide +kernel) (by decide +kernel)⟩
theorem fX6_19 : FL RX6 19 6 2 := ⟨(RX6, TX6, 6), rfl, by decide, TB_mem 228 (by decide +kernel) (by decide +kernel)⟩
theorem fX6_28 : FL RX6 28 6 3 := ⟨(RX6, TX6, 6), rfl, by decide, TB_mem 229 (by decide +kernel) (by decide +kernel)⟩
theorem fX6_35 : FL RX6 35 6 4 := ⟨(RX6, TX6, 6), rfl, by decide, TB_mem 230 (by decide +kernel) (by decide +kernel)⟩
theorem fX6_41 : FL RX6 41 6 5 := ⟨(RX6, TX6, 6), rfl, by decide, TB_mem 231 (by decide +kernel) (by decide +kernel)⟩
theorem kL_13 : CV RL 13 mX6_garden 2 := ⟨TB_mem 245 (by decide +kernel) (by decide +kernel), TB_mem 246 (by decide +kernel) (by decide +kernel), TB_mem 247 (by decide +kernel) (by decide +kernel), okX6_garden⟩
theorem kX6_46 : CS RX6 46 mX6_within 3 := ⟨TB_mem 249 (by decide +kernel) (by decide +kernel), TB_mem 250 (by decide +kernel) (by decide +kernel), okX6_within⟩
theorem kX6_54 : CV RX6 54 mX4_settle 2 := ⟨TB_mem 252 (by decide +kernel) (by decide +kernel), TB_mem 253 (by decide +kernel) (by decide +kernel), TB_mem 254 (by decide +kernel) (by decide +kernel), okX4_settle⟩
theorem kX4_69 : CV RX4 69 mX3_clearWall 1 := ⟨TB_mem 256 (by decide +kernel) (by decide +kernel), TB_mem 257 (by decide +kernel) (by decide +kernel), TB_mem 258 (by decide +kernel) (by decide +kernel), okX3_clearWall⟩
theorem kX4_73 : CV RX4 73 mX1_forget 0 := ⟨TB_mem 260 (by decide +kernel) (by decide +kernel), TB_mem 261 (by decide +kernel) (by decide +kernel), TB_mem 262 (by decide +kernel) (by decide +kernel), okX1_forget⟩
theorem kL_18 : CV RL 18 mX6_of 2 := ⟨TB_mem 264 (by decide +kernel) (by decide +kernel), TB_mem 265 (by decide +kernel) (by decide +kernel), TB_mem 266 (by decide +kernel) (by decide +kernel), okX6_of⟩
theorem kX6_58 : CV RX6 58 mX4_isGarden 1 := ⟨TB_mem 268 (by decide +kernel) (by decide +kernel), TB_mem 269 (by decide +kernel) (by decide +kernel), TB_mem 270 (by decide +kernel) (by decide +kernel), okX4_isGarden⟩
theorem kX4_58 : NS RX4 58 mX6_within 3 := ⟨NW_mem 272 (by decide +kernel) (by decide +kernel), TB_mem 250 (by decide +kernel) (by decide +kernel), okX6_within⟩
theorem kX6_78 : CV RX6 78 mX4_galledBy 2 := ⟨TB_mem 273 (by decide +kernel) (by decide +kernel), TB_mem 274 (by decide +kernel) (by decide +kernel), TB_mem 275 (by decide +kernel) (by decide +kernel), okX4_galledBy⟩
theorem kX4_101 : CS RX4 101 mX4_galls 3 := ⟨TB_mem 280 (by decide +kernel) (by decide +kernel), TB_mem 281 (by decide +kernel) (by decide +kernel), okX4_galls⟩
theorem kX6_81 : CV RX6 81 mX4_inSight 1 := ⟨TB_mem 283 (by decide +kernel) (by decide +kernel), TB_mem 284 (by decide +kernel) (by decide +kernel), TB_mem 285 (by decide +kernel) (by decide +kernel), okX4_inSight⟩
theorem kL_22 : CV RL 22 mX6_wall 2 := ⟨TB_mem 287 (by decide +kernel) (by decide +kernel), TB_mem 288 (by decide +kernel) (by decide +kernel), TB_mem 289 (by decide +kernel) (by decide +kernel), okX6_wall⟩
theorem kX6_85 : CV RX6 85 mX4_isWall 1 := ⟨TB_mem 291 (by decide +kernel) (by decide +kernel), TB_mem 292 (by decide +kernel) (by decide +kernel), TB_mem 293 (by decide +kernel) (by decide +kernel), okX4_isWall⟩
theorem kX4_62 : CV RX4 62 mX4_walls 0 := ⟨TB_mem 295 (by decide +kernel) (by decide +kernel), TB_mem 296 (by decide +kernel) (by decide +kernel), TB_mem 297 (by decide +kernel) (by decide +kernel), okX4_walls⟩
theorem kX6_94 : CV RX6 94 mX4_weekly 2 := ⟨TB_mem 299 (by decide +kernel) (by decide +kernel), TB_mem 300 (by decide +kernel) (by decide +kernel), TB_mem 301 (by decide +kernel) (by decide +kernel), okX4_weekly⟩
theorem kX6_97 : CV RX6 97 mX3_weeksToApology 1 := ⟨TB_mem 303 (by decide +kernel) (by decide +kernel), TB_mem 304 (by decide +kernel) (by decide +kernel), TB_mem 305 (by decide +kernel) (by decide +kernel), okX3_weeksToApology⟩
theorem kL_26 : CV RL 26 mX6_noise 2 := ⟨TB_mem 310 (by decide +kernel) (by decide +kernel), TB_mem 311 (by decide +kernel) (by decide +kernel), TB_mem 312 (by decide +kernel) (by decide +kernel), okX6_noise⟩
theorem kL_30 : CV RL 30 mX6_rule 2 := ⟨TB_mem 314 (by decide +kernel) (by decide +kernel), TB_mem 315 (by decide +kernel) (by decide +kernel), TB_mem 316 (by decide +kernel) (by decide +kernel), okX6_rule⟩
theorem kL_34 : CV RL 34 mX6_type 1 := ⟨TB_mem 318 (by decide +kernel) (by decide +kernel), TB_mem 319 (by decide +kernel) (by decide +kernel), TB_mem 320 (by decide +kernel) (by decide +kernel), okX6_type⟩
theorem kX6_109 : CV RX6 109 mX5_write 1 := ⟨TB_mem 322 (by decide +kernel) (by decide +kernel), TB_mem 323 (by decide +kernel) (by decide +kernel), TB_mem 324 (by decide +kernel) (by decide +kernel), okX5_write⟩
theorem kL_39 : CV RL 39 mX6_street 0 := ⟨TB_mem 326 (by decide +kernel) (by decide +kernel), TB_mem 327 (by decide +kernel) (by decide +kernel), TB_mem 328 (by decide +kernel) (by decide +kernel), okX6_street⟩
theorem kX6_113 : CV RX6 113 mX5_parse 0 := ⟨TB_mem 330 (by decide +kernel) (by decide +kernel), TB_mem 331 (by decide +kernel) (by decide +kernel), TB_mem 332 (by decide +kernel) (by decide +kernel), okX5_parse⟩
theorem kX5_38 : CV RX5 38 mX5_readYear 0 := ⟨TB_mem 334 (by decide +kernel) (by decide +kernel), TB_mem 335 (by decide +kernel) (by decide +kernel), TB_mem 336 (by decide +kernel) (by decide +kernel), okX5_readYear⟩
theorem kX5_58 : CV RX5 58 mX5_readDigit 0 := ⟨TB_mem 338 (by decide +kernel) (by decide +kernel), TB_mem 339 (by decide +kernel) (by decide +kernel), TB_mem 340 (by decide +kernel) (by decide +kernel), okX5_readDigit⟩
theorem kX5_49 : CV RX5 49 mX5_atEnd 0 := ⟨TB_mem 342 (by decide +kernel) (by decide +kernel), TB_mem 343 (by decide +kernel) (by decide +kernel), TB_mem 344 (by decide +kernel) (by decide +kernel), okX5_atEnd⟩
theorem kX5_55 : CV RX5 55 mX5_isDigit 0 := ⟨TB_mem 346 (by decide +kernel) (by decide +kernel), TB_mem 347 (by decide +kernel) (by decide +kernel), TB_mem 348 (by decide +kernel) (by decide +kernel), okX5_isDigit⟩
theorem kX5_62 : NS RX5 62 mX6_within 3 := ⟨NW_mem 350 (by decide +kernel) (by decide +kernel), TB_mem 250 (by decide +kernel) (by decide +kernel), okX6_within⟩
theorem kX5_42 : CV RX5 42 mX5_readSign 1 := ⟨TB_mem 351 (by decide +kernel) (by decide +kernel), TB_mem 352 (by decide +kernel) (by decide +kernel), TB_mem 353 (by decide +kernel) (by decide +kernel), okX5_readSign⟩
theorem kX5_46 : CV RX5 46 mX5_readOwner 0 := ⟨TB_mem 355 (by decide +kernel) (by decide +kernel), TB_mem 356 (by decide +kernel) (by decide +kernel), TB_mem 357 (by decide +kernel) (by decide +kernel), okX5_readOwner⟩
theorem kX5_68 : CV RX5 68 mJ0_indexOf_0f7a4 1 := ⟨TB_mem 360 (by decide +kernel) (by decide +kernel), TB_mem 361 (by decide +kernel) (by decide +kernel), TB_mem 362 (by decide +kernel) (by decide +kernel), okJ0_indexOf_0f7a4⟩
theorem kJ0_633 : CV RJ0 633 mJ0_indexOf_7cf53 2 := ⟨TB_mem 364 (by decide +kernel) (by decide +kernel), TB_mem 365 (by decide +kernel) (by decide +kernel), TB_mem 366 (by decide +kernel) (by decide +kernel), okJ0_indexOf_7cf53⟩
theorem kJ0_492 : CV RJ0 492 mJ0_isLatin1_aae02 0 := ⟨TB_mem 368 (by decide +kernel) (by decide +kernel), TB_mem 369 (by decide +kernel) (by decide +kernel), TB_mem 370 (by decide +kernel) (by decide +kernel), okJ0_isLatin1_aae02⟩
theorem kJ0_505 : CV RJ0 505 mJ0_length_8abf5 0 := ⟨TB_mem 374 (by decide +kernel) (by decide +kernel), TB_mem 375 (by decide +kernel) (by decide +kernel), TB_mem 376 (by decide +kernel) (by decide +kernel), okJ0_length_8abf5⟩
theorem kJ0_335 : CV RJ0 335 mJ0_coder_7d493 0 := ⟨TB_mem 378 (by decide +kernel) (by decide +kernel), TB_mem 379 (by decide +kernel) (by decide +kernel), TB_mem 380 (by decide +kernel) (by decide +kernel), okJ0_coder_7d493⟩
theorem kJ0_637 : CS RJ0 637 mJ1_indexOf_4cfef 4 := ⟨TB_mem 382 (by decide +kernel) (by decide +kernel), TB_mem 383 (by decide +kernel) (by decide +kernel), okJ1_indexOf_4cfef⟩
theorem kJ1_88 : CS RJ1 88 mJ1_canEncode_9a6ad 1 := ⟨TB_mem 385 (by decide +kernel) (by decide +kernel), TB_mem 386 (by decide +kernel) (by decide +kernel), okJ1_canEncode_9a6ad⟩
theorem kJ1_95 : CS RJ1 95 mJ1_indexOfChar_4cfef 4 := ⟨TB_mem 390 (by decide +kernel) (by decide +kernel), TB_mem 391 (by decide +kernel) (by decide +kernel), okJ1_indexOfChar_4cfef⟩
theorem kJ0_640 : CS RJ0 640 mJ2_indexOf_4cfef 4 := ⟨TB_mem 393 (by decide +kernel) (by decide +kernel), TB_mem 394 (by decide +kernel) (by decide +kernel), okJ2_indexOf_4cfef⟩
theorem nJ2_227 : Cond.constant RJ2 227 (65536) ∈ TB := TB_mem 398 (by decide +kernel) (by decide +kernel)
theorem kJ2_228 : CS RJ2 228 mJ2_indexOfChar_4cfef 4 := ⟨TB_mem 399 (by decide +kernel) (by decide +kernel), TB_mem 400 (by decide +kernel) (by decide +kernel), okJ2_indexOfChar_4cfef⟩
theorem kJ2_96 : CS RJ2 96 mJ2_checkBoundsBeginEnd_d044e 3 := ⟨TB_mem 402 (by decide +kernel) (by decide +kernel), TB_mem 403 (by decide +kernel) (by decide +kernel), okJ2_checkBoundsBeginEnd_d044e⟩
theorem kJ2_48 : CS RJ2 48 mJ2_length_9d52b 1 := ⟨TB_mem 405 (by decide +kernel) (by decide +kernel), TB_mem 406 (by decide +kernel) (by decide +kernel), okJ2_length_9d52b⟩
theorem kJ2_241 : CS RJ2 241 mJ0_checkBoundsBeginEnd_23922 3 := ⟨TB_mem 408 (by decide +kernel) (by decide +kernel), TB_mem 409 (by decide +kernel) (by decide +kernel), okJ0_checkBoundsBeginEnd_23922⟩
theorem kJ0_1062 : CS RJ0 1062 mJ3_checkFromToIndex_8c36e 4 := ⟨TB_mem 413 (by decide +kernel) (by decide +kernel), TB_mem 414 (by decide +kernel) (by decide +kernel), okJ3_checkFromToIndex_8c36e⟩
theorem kJ2_244 : CS RJ2 244 mJ2_indexOfCharUnsafe_4cfef 4 := ⟨TB_mem 416 (by decide +kernel) (by decide +kernel), TB_mem 417 (by decide +kernel) (by decide +kernel), okJ2_indexOfCharUnsafe_4cfef⟩
theorem kJ2_71 : CS RJ2 71 mJ2_getChar_3b067 2 := ⟨TB_mem 419 (by decide +kernel) (by decide +kernel), TB_mem 420 (by decide +kernel) (by decide +kernel), okJ2_getChar_3b067⟩
theorem kJ2_232 : CS RJ2 232 mJ2_indexOfSupplementary_4cfef 4 := ⟨TB_mem 428 (by decide +kernel) (by decide +kernel), TB_mem 429 (by decide +kernel) (by decide +kernel), okJ2_indexOfSupplementary_4cfef⟩
theorem kJ2_164 : CS RJ2 164 mJ11_isValidCodePoint_9a6ad 1 := ⟨TB_mem 431 (by decide +kernel) (by decide +kernel), TB_mem 432 (by decide +kernel) (by decide +kernel), okJ11_isValidCodePoint_9a6ad⟩
theorem kJ2_157 : CS RJ2 157 mJ11_highSurrogate_5068e 1 := ⟨TB_mem 434 (by decide +kernel) (by decide +kernel), TB_mem 435 (by decide +kernel) (by decide +kernel), okJ11_highSurrogate_5068e⟩
theorem nJ11_110 : Cond.constant RJ11 110 (55232) ∈ TB := TB_mem 437 (by decide +kernel) (by decide +kernel)
theorem kJ2_161 : CS RJ2 161 mJ11_lowSurrogate_5068e 1 := ⟨TB_mem 438 (by decide +kernel) (by decide +kernel), TB_mem 439 (by decide +kernel) (by decide +kernel), okJ11_lowSurrogate_5068e⟩
theorem nJ11_76 : Cond.constant RJ11 76 (56320) ∈ TB := TB_mem 441 (by decide +kernel) (by decide +kernel)
theorem kX5_52 : CV RX5 52 mX5_readQuarrel 0 := ⟨TB_mem 442 (by decide +kernel) (by decide +kernel), TB_mem 443 (by decide +kernel) (by decide +kernel), TB_mem 444 (by decide +kernel) (by decide +kernel), okX5_readQuarrel⟩
theorem kX6_117 : CV RX6 117 mX4_layOut 1 := ⟨TB_mem 446 (by decide +kernel) (by decide +kernel), TB_mem 447 (by decide +kernel) (by decide +kernel), TB_mem 448 (by decide +kernel) (by decide +kernel), okX4_layOut⟩
theorem kX4_85 : CV RX4 85 mX4_settle 2 := ⟨TB_mem 450 (by decide +kernel) (by decide +kernel), TB_mem 253 (by decide +kernel) (by decide +kernel), TB_mem 254 (by decide +kernel) (by decide +kernel), okX4_settle⟩
theorem ac_byte : Cond.arrayClass .byte ∈ TB := TB_mem 451 (by decide +kernel) (by decide +kernel)
theorem kL_44 : CV RL 44 mX6_count 1 := ⟨TB_mem 452 (by decide +kernel) (by decide +kernel), TB_mem 453 (by decide +kernel) (by decide +kernel), TB_mem 454 (by decide +kernel) (by decide +kernel), okX6_count⟩
theorem kX6_124 : CV RX6 124 mX4_walls 0 := ⟨TB_mem 456 (by decide +kernel) (by decide +kernel), TB_mem 296 (by decide +kernel) (by decide +kernel), TB_mem 297 (by decide +kernel) (by decide +kernel), okX4_walls⟩
theorem kX6_127 : CS RX6 127 mX6_sum 2 := ⟨TB_mem 457 (by decide +kernel) (by decide +kernel), TB_mem 458 (by decide +kernel) (by decide +kernel), okX6_sum⟩
theorem kX6_131 : CV RX6 131 mX4_weeksToMichaelmas 0 := ⟨TB_mem 460 (by decide +kernel) (by decide +kernel), TB_mem 461 (by decide +kernel) (by decide +kernel), TB_mem 462 (by decide +kernel) (by decide +kernel), okX4_weeksToMichaelmas⟩
theorem kX6_134 : CV RX6 134 mX4_openToApology 0 := ⟨TB_mem 464 (by decide +kernel) (by decide +kernel), TB_mem 465 (by decide +kernel) (by decide +kernel), TB_mem 466 (by decide +kernel) (by decide +kernel), okX4_openToApology⟩
theorem kX4_105 : CV RX4 105 mX3_weeksToApology 1 := ⟨TB_mem 468 (by decide +kernel) (by decide +kernel), TB_mem 304 (by decide +kernel) (by decide +kernel), TB_mem 305 (by decide +kernel) (by decide +kernel), okX3_weeksToApology⟩
theorem kL_48 : CV RL 48 mX6_weeks 1 := ⟨TB_mem 469 (by decide +kernel) (by decide +kernel), TB_mem 470 (by decide +kernel) (by decide +kernel), TB_mem 471 (by decide +kernel) (by decide +kernel), okX6_weeks⟩
theorem kX6_146 : CV RX6 146 mX6_refusalOfWeeks 1 := ⟨TB_mem 473 (by decide +kernel) (by decide +kernel), TB_mem 475 (by decide +kernel) (by decide +kernel), TB_mem 0 (by decide +kernel) (by decide +kernel), okX6_refusalOfWeeks⟩
theorem kX6_149 : CV RX6 149 mX4_remember 0 := ⟨TB_mem 477 (by decide +kernel) (by decide +kernel), TB_mem 478 (by decide +kernel) (by decide +kernel), TB_mem 479 (by decide +kernel) (by decide +kernel), okX4_remember⟩
theorem kX4_55 : CV RX4 55 mX1_add 1 := ⟨TB_mem 481 (by decide +kernel) (by decide +kernel), TB_mem 482 (by decide +kernel) (by decide +kernel), TB_mem 483 (by decide +kernel) (by decide +kernel), okX1_add⟩
theorem kX1_25 : CV RX1 25 mX3_become 1 := ⟨TB_mem 485 (by decide +kernel) (by decide +kernel), TB_mem 486 (by decide +kernel) (by decide +kernel), TB_mem 487 (by decide +kernel) (by decide +kernel), okX3_become⟩
theorem kX6_152 : CV RX6 152 mX4_passWeek 0 := ⟨TB_mem 492 (by decide +kernel) (by decide +kernel), TB_mem 493 (by decide +kernel) (by decide +kernel), TB_mem 494 (by decide +kernel) (by decide +kernel), okX4_passWeek⟩
theorem kX4_109 : CV RX4 109 mX4_weekly 2 := ⟨TB_mem 496 (by decide +kernel) (by decide +kernel), TB_mem 300 (by decide +kernel) (by decide +kernel), TB_mem 301 (by decide +kernel) (by decide +kernel), okX4_weekly⟩
theorem kX4_112 : CV RX4 112 mX4_vary 2 := ⟨TB_mem 497 (by decide +kernel) (by decide +kernel), TB_mem 498 (by decide +kernel) (by decide +kernel), TB_mem 499 (by decide +kernel) (by decide +kernel), okX4_vary⟩
theorem kX4_136 : NS RX4 136 mX6_asQuarrel 1 := ⟨NW_mem 501 (by decide +kernel) (by decide +kernel), TB_mem 502 (by decide +kernel) (by decide +kernel), okX6_asQuarrel⟩
theorem kX4_115 : CV RX4 115 mX4_weeksToMichaelmas 0 := ⟨TB_mem 506 (by decide +kernel) (by decide +kernel), TB_mem 461 (by decide +kernel) (by decide +kernel), TB_mem 462 (by decide +kernel) (by decide +kernel), okX4_weeksToMichaelmas⟩
theorem kX4_118 : CV RX4 118 mX4_assess 1 := ⟨TB_mem 507 (by decide +kernel) (by decide +kernel), TB_mem 508 (by decide +kernel) (by decide +kernel), TB_mem 509 (by decide +kernel) (by decide +kernel), okX4_assess⟩
theorem kX4_121 : NS RX4 121 mX6_coursesFor 1 := ⟨NW_mem 511 (by decide +kernel) (by decide +kernel), TB_mem 512 (by decide +kernel) (by decide +kernel), okX6_coursesFor⟩
theorem kL_52 : CV RL 52 mX6_sorry 1 := ⟨TB_mem 514 (by decide +kernel) (by decide +kernel), TB_mem 515 (by decide +kernel) (by decide +kernel), TB_mem 516 (by decide +kernel) (by decide +kernel), okX6_sorry⟩
theorem kX6_155 : CV RX6 155 mX4_apologise 1 := ⟨TB_mem 518 (by decide +kernel) (by decide +kernel), TB_mem 519 (by decide +kernel) (by decide +kernel), TB_mem 520 (by decide +kernel) (by decide +kernel), okX4_apologise⟩
theorem kX4_139 : NS RX4 139 mX6_lessAThird 1 := ⟨NW_mem 522 (by decide +kernel) (by decide +kernel), TB_mem 523 (by decide +kernel) (by decide +kernel), okX6_lessAThird⟩
theorem kL_56 : CV RL 56 mX6_gift 3 := ⟨TB_mem 525 (by decide +kernel) (by decide +kernel), TB_mem 526 (by decide +kernel) (by decide +kernel), TB_mem 527 (by decide +kernel) (by decide +kernel), okX6_gift⟩
theorem kX6_158 : CS RX6 158 mX6_rootOf 1 := ⟨TB_mem 529 (by decide +kernel) (by decide +kernel), TB_mem 530 (by decide +kernel) (by decide +kernel), okX6_rootOf⟩
theorem kX6_161 : CV RX6 161 mX4_vary 2 := ⟨TB_mem 532 (by decide +kernel) (by decide +kernel), TB_mem 498 (by decide +kernel) (by decide +kernel), TB_mem 499 (by decide +kernel) (by decide +kernel), okX4_vary⟩
theorem kL_61 : CV RL 61 mX6_gossip 2 := ⟨TB_mem 533 (by decide +kernel) (by decide +kernel), TB_mem 534 (by decide +kernel) (by decide +kernel), TB_mem 535 (by decide +kernel) (by decide +kernel), okX6_gossip⟩
theorem kL_65 : CV RL 65 mX6_lovers 1 := ⟨TB_mem 537 (by decide +kernel) (by decide +kernel), TB_mem 538 (by decide +kernel) (by decide +kernel), TB_mem 539 (by decide +kernel) (by decide +kernel), okX6_lovers⟩
theorem kL_69 : CV RL 69 mX6_falls 1 := ⟨TB_mem 541 (by decide +kernel) (by decide +kernel), TB_mem 542 (by decide +kernel) (by decide +kernel), TB_mem 543 (by decide +kernel) (by decide +kernel), okX6_falls⟩
theorem kX6_164 : CV RX6 164 mX4_collapse 1 := ⟨TB_mem 545 (by decide +kernel) (by decide +kernel), TB_mem 546 (by decide +kernel) (by decide +kernel), TB_mem 547 (by decide +kernel) (by decide +kernel), okX4_collapse⟩
theorem kL_73 : CV RL 73 mX6_drift 1 := ⟨TB_mem 549 (by decide +kernel) (by decide +kernel), TB_mem 550 (by decide +kernel) (by decide +kernel), TB_mem 551 (by decide +kernel) (by decide +kernel), okX6_drift⟩
theorem kX6_167 : CV RX6 167 mX4_blow 0 := ⟨TB_mem 553 (by decide +kernel) (by decide +kernel), TB_mem 554 (by decide +kernel) (by decide +kernel), TB_mem 555 (by decide +kernel) (by decide +kernel), okX4_blow⟩
theorem kX4_124 : CV RX4 124 mX4_drawNext 0 := ⟨TB_mem 557 (by decide +kernel) (by decide +kernel), TB_mem 558 (by decide +kernel) (by decide +kernel), TB_mem 559 (by decide +kernel) (by decide +kernel), okX4_drawNext⟩
theorem nX4_134 : Cond.constant RX4 134 (1103515245) ∈ TB := TB_mem 561 (by decide +kernel) (by decide +kernel)
theorem nX4_135 : Cond.constant RX4 135 (2147483647) ∈ TB := TB_mem 562 (by decide +kernel) (by decide +kernel)
theorem nX4_127 : Cond.constant RX4 127 (65536) ∈ TB := TB_mem 563 (by decide +kernel) (by decide +kernel)
theorem kX4_128 : CV RX4 128 mX4_collapse 1 := ⟨TB_mem 564 (by decide +kernel) (by decide +kernel), TB_mem 546 (by decide +kernel) (by decide +kernel), TB_mem 547 (by decide +kernel) (by decide +kernel), okX4_collapse⟩
theorem kL_77 : CV RL 77 mX6_undo 0 := ⟨TB_mem 565 (by decide +kernel) (by decide +kernel), TB_mem 566 (by decide +kernel) (by decide +kernel), TB_mem 567 (by decide +kernel) (by decide +kernel), okX6_undo⟩
theorem kX6_170 : CV RX6 170 mX1_giveBack 1 := ⟨TB_mem 569 (by decide +kernel) (by decide +kernel), TB_mem 570 (by decide +kernel) (by decide +kernel), TB_mem 571 (by decide +kernel) (by decide +kernel), okX1_giveBack⟩
theorem kL_81 : CV RL 81 mX6_seed 1 := ⟨TB_mem 573 (by decide +kernel) (by decide +kernel), TB_mem 574 (by decide +kernel) (by decide +kernel), TB_mem 575 (by decide +kernel) (by decide +kernel), okX6_seed⟩
theorem kL_85 : CV RL 85 mX6_ahead 3 := ⟨TB_mem 577 (by decide +kernel) (by decide +kernel), TB_mem 578 (by decide +kernel) (by decide +kernel), TB_mem 579 (by decide +kernel) (by decide +kernel), okX6_ahead⟩
theorem kX6_177 : CV RX6 177 mX0_allBehind 2 := ⟨TB_mem 581 (by decide +kernel) (by decide +kernel), TB_mem 582 (by decide +kernel) (by decide +kernel), TB_mem 583 (by decide +kernel) (by decide +kernel), okX0_allBehind⟩
theorem kX0_61 : CV RX0 61 mX4_walls 0 := ⟨TB_mem 585 (by decide +kernel) (by decide +kernel), TB_mem 296 (by decide +kernel) (by decide +kernel), TB_mem 297 (by decide +kernel) (by decide +kernel), okX4_walls⟩
theorem kX0_64 : CV RX0 64 mX0_behind 3 := ⟨TB_mem 586 (by decide +kernel) (by decide +kernel), TB_mem 587 (by decide +kernel) (by decide +kernel), TB_mem 588 (by decide +kernel) (by decide +kernel), okX0_behind⟩
theorem kX0_46 : CV RX0 46 mX4_weeksToMichaelmas 0 := ⟨TB_mem 590 (by decide +kernel) (by decide +kernel), TB_mem 461 (by decide +kernel) (by decide +kernel), TB_mem 462 (by decide +kernel) (by decide +kernel), okX4_weeksToMichaelmas⟩
theorem kX0_50 : CV RX0 50 mX0_grown 4 := ⟨TB_mem 591 (by decide +kernel) (by decide +kernel), TB_mem 592 (by decide +kernel) (by decide +kernel), TB_mem 593 (by decide +kernel) (by decide +kernel), okX0_grown⟩
theorem kX0_28 : CV RX0 28 mX4_weekly 2 := ⟨TB_mem 595 (by decide +kernel) (by decide +kernel), TB_mem 300 (by decide +kernel) (by decide +kernel), TB_mem 301 (by decide +kernel) (by decide +kernel), okX4_weekly⟩
theorem kX0_34 : NS RX0 34 mX6_asQuarrel 1 := ⟨NW_mem 596 (by decide +kernel) (by decide +kernel), TB_mem 502 (by decide +kernel) (by decide +kernel), okX6_asQuarrel⟩
theorem kX0_54 : NS RX0 54 mX6_coursesFor 1 := ⟨NW_mem 597 (by decide +kernel) (by decide +kernel), TB_mem 512 (by decide +kernel) (by decide +kernel), okX6_coursesFor⟩
theorem kX6_180 : CV RX6 180 mX0_behind 3 := ⟨TB_mem 598 (by decide +kernel) (by decide +kernel), TB_mem 587 (by decide +kernel) (by decide +kernel), TB_mem 588 (by decide +kernel) (by decide +kernel), okX0_behind⟩
theorem kL_89 : CV RL 89 mX6_settles 0 := ⟨TB_mem 599 (by decide +kernel) (by decide +kernel), TB_mem 600 (by decide +kernel) (by decide +kernel), TB_mem 601 (by decide +kernel) (by decide +kernel), okX6_settles⟩
theorem kX6_184 : CV RX6 184 mX0_changingMichaelmases 0 := ⟨TB_mem 603 (by decide +kernel) (by decide +kernel), TB_mem 604 (by decide +kernel) (by decide +kernel), TB_mem 605 (by decide +kernel) (by decide +kernel), okX0_changingMichaelmases⟩
theorem kX0_74 : CV RX0 74 mX0_michaelmasChanges 1 := ⟨TB_mem 608 (by decide +kernel) (by decide +kernel), TB_mem 609 (by decide +kernel) (by decide +kernel), TB_mem 610 (by decide +kernel) (by decide +kernel), okX0_michaelmasChanges⟩
theorem kL_93 : CV RL 93 mX6_leastGift 2 := ⟨TB_mem 612 (by decide +kernel) (by decide +kernel), TB_mem 613 (by decide +kernel) (by decide +kernel), TB_mem 614 (by decide +kernel) (by decide +kernel), okX6_leastGift⟩
theorem kX6_187 : CV RX6 187 mX0_giftFor 2 := ⟨TB_mem 616 (by decide +kernel) (by decide +kernel), TB_mem 617 (by decide +kernel) (by decide +kernel), TB_mem 618 (by decide +kernel) (by decide +kernel), okX0_giftFor⟩
theorem kX0_78 : CV RX0 78 mX0_coursesNext 2 := ⟨TB_mem 620 (by decide +kernel) (by decide +kernel), TB_mem 621 (by decide +kernel) (by decide +kernel), TB_mem 622 (by decide +kernel) (by decide +kernel), okX0_coursesNext⟩
theorem kL_97 : CV RL 97 mX6_sorries 2 := ⟨TB_mem 624 (by decide +kernel) (by decide +kernel), TB_mem 625 (by decide +kernel) (by decide +kernel), TB_mem 626 (by decide +kernel) (by decide +kernel), okX6_sorries⟩
theorem kX6_190 : CV RX6 190 mX0_weighApologies 0 := ⟨TB_mem 628 (by decide +kernel) (by decide +kernel), TB_mem 629 (by decide +kernel) (by decide +kernel), TB_mem 630 (by decide +kernel) (by decide +kernel), okX0_weighApologies⟩
theorem kX0_81 : NS RX0 81 mX6_lessAThird 1 := ⟨NW_mem 632 (by decide +kernel) (by decide +kernel), TB_mem 523 (by decide +kernel) (by decide +kernel), okX6_lessAThird⟩
theorem kX6_193 : CV RX6 193 mX0_bestApologies 1 := ⟨TB_mem 633 (by decide +kernel) (by decide +kernel), TB_mem 634 (by decide +kernel) (by decide +kernel), TB_mem 635 (by decide +kernel) (by decide +kernel), okX0_bestApologies⟩
theorem kX0_84 : CV RX0 84 mX4_openToApology 0 := ⟨TB_mem 637 (by decide +kernel) (by decide +kernel), TB_mem 465 (by decide +kernel) (by decide +kernel), TB_mem 466 (by decide +kernel) (by decide +kernel), okX4_openToApology⟩
theorem kX0_87 : CV RX0 87 mX0_coursesWith 1 := ⟨TB_mem 638 (by decide +kernel) (by decide +kernel), TB_mem 639 (by decide +kernel) (by decide +kernel), TB_mem 640 (by decide +kernel) (by decide +kernel), okX0_coursesWith⟩
theorem kX0_90 : CS RX0 90 mJ6_bitCount_0f7a4 1 := ⟨TB_mem 642 (by decide +kernel) (by decide +kernel), TB_mem 643 (by decide +kernel) (by decide +kernel), okJ6_bitCount_0f7a4⟩
theorem nJ6_265 : Cond.constant RJ6 265 (1431655765) ∈ TB := TB_mem 645 (by decide +kernel) (by decide +kernel)
theorem nJ6_266 : Cond.constant RJ6 266 (858993459) ∈ TB := TB_mem 646 (by decide +kernel) (by decide +kernel)
theorem nJ6_267 : Cond.constant RJ6 267 (252645135) ∈ TB := TB_mem 647 (by decide +kernel) (by decide +kernel)
theorem kX6_196 : CV RX6 196 mX0_coursesWith 1 := ⟨TB_mem 648 (by decide +kernel) (by decide +kernel), TB_mem 639 (by decide +kernel) (by decide +kernel), TB_mem 640 (by decide +kernel) (by decide +kernel), okX0_coursesWith⟩
theorem kL_101 : CV RL 101 mX6_stir 2 := ⟨TB_mem 649 (by decide +kernel) (by decide +kernel), TB_mem 650 (by decide +kernel) (by decide +kernel), TB_mem 651 (by decide +kernel) (by decide +kernel), okX6_stir⟩
theorem kX6_199 : CV RX6 199 mX0_weighGossip 1 := ⟨TB_mem 653 (by decide +kernel) (by decide +kernel), TB_mem 654 (by decide +kernel) (by decide +kernel), TB_mem 655 (by decide +kernel) (by decide +kernel), okX0_weighGossip⟩
theorem kX6_203 : CV RX6 203 mX0_bestGossip 0 := ⟨TB_mem 657 (by decide +kernel) (by decide +kernel), TB_mem 658 (by decide +kernel) (by decide +kernel), TB_mem 659 (by decide +kernel) (by decide +kernel), okX0_bestGossip⟩
theorem kL_105 : CV RL 105 mX6_holds 1 := ⟨TB_mem 661 (by decide +kernel) (by decide +kernel), TB_mem 662 (by decide +kernel) (by decide +kernel), TB_mem 663 (by decide +kernel) (by decide +kernel), okX6_holds⟩
theorem kX6_206 : CV RX6 206 mX0_chanceToStand 1 := ⟨TB_mem 665 (by decide +kernel) (by decide +kernel), TB_mem 666 (by decide +kernel) (by decide +kernel), TB_mem 667 (by decide +kernel) (by decide +kernel), okX0_chanceToStand⟩
theorem nX0_95 : Cond.constant RX0 95 (1000000) ∈ TB := TB_mem 669 (by decide +kernel) (by decide +kernel)
theorem kL_109 : CV RL 109 mX6_image 0 := ⟨TB_mem 670 (by decide +kernel) (by decide +kernel), TB_mem 671 (by decide +kernel) (by decide +kernel), TB_mem 672 (by decide +kernel) (by decide +kernel), okX6_image⟩
theorem kX6_209 : CV RX6 209 mX4_become 1 := ⟨TB_mem 674 (by decide +kernel) (by decide +kernel), TB_mem 675 (by decide +kernel) (by decide +kernel), TB_mem 676 (by decide +kernel) (by decide +kernel), okX4_become⟩
theorem kX4_48 : CV RX4 48 mX3_become 1 := ⟨TB_mem 679 (by decide +kernel) (by decide +kernel), TB_mem 486 (by decide +kernel) (by decide +kernel), TB_mem 487 (by decide +kernel) (by decide +kernel), okX3_become⟩
theorem kX4_52 : CV RX4 52 mX1_become 1 := ⟨TB_mem 680 (by decide +kernel) (by decide +kernel), TB_mem 681 (by decide +kernel) (by decide +kernel), TB_mem 682 (by decide +kernel) (by decide +kernel), okX1_become⟩
theorem kL_113 : CV RL 113 mX6_restore 0 := ⟨TB_mem 684 (by decide +kernel) (by decide +kernel), TB_mem 685 (by decide +kernel) (by decide +kernel), TB_mem 686 (by decide +kernel) (by decide +kernel), okX6_restore⟩
theorem kL_117 : CV RL 117 mX6_seen 6 := ⟨TB_mem 688 (by decide +kernel) (by decide +kernel), TB_mem 689 (by decide +kernel) (by decide +kernel), TB_mem 690 (by decide +kernel) (by decide +kernel), okX6_seen⟩
theorem kX6_212 : CS RX6 212 mX6_isSheet 1 := ⟨TB_mem 692 (by decide +kernel) (by decide +kernel), TB_mem 693 (by decide +kernel) (by decide +kernel), okX6_isSheet⟩
theorem kX6_215 : CS RX6 215 mX6_isLane 1 := ⟨TB_mem 695 (by decide +kernel) (by decide +kernel), TB_mem 696 (by decide +kernel) (by decide +kernel), okX6_isLane⟩
theorem kX6_218 : CV RX6 218 mX2_refusal 3 := ⟨TB_mem 698 (by decide +kernel) (by decide +kernel), TB_mem 699 (by decide +kernel) (by decide +kernel), TB_mem 700 (by decide +kernel) (by decide +kernel), okX2_refusal⟩
theorem kX2_26 : CV RX2 26 mX2_has 2 := ⟨TB_mem 702 (by decide +kernel) (by decide +kernel), TB_mem 703 (by decide +kernel) (by decide +kernel), TB_mem 704 (by decide +kernel) (by decide +kernel), okX2_has⟩
theorem kX6_221 : CV RX6 221 mX0_howManyFit 4 := ⟨TB_mem 706 (by decide +kernel) (by decide +kernel), TB_mem 707 (by decide +kernel) (by decide +kernel), TB_mem 708 (by decide +kernel) (by decide +kernel), okX0_howManyFit⟩
theorem kX0_96 : CV RX0 96 mX0_fits 5 := ⟨TB_mem 710 (by decide +kernel) (by decide +kernel), TB_mem 711 (by decide +kernel) (by decide +kernel), TB_mem 712 (by decide +kernel) (by decide +kernel), okX0_fits⟩
theorem kX6_225 : CV RX6 225 mX0_leastThatFits 4 := ⟨TB_mem 714 (by decide +kernel) (by decide +kernel), TB_mem 715 (by decide +kernel) (by decide +kernel), TB_mem 716 (by decide +kernel) (by decide +kernel), okX0_leastThatFits⟩
theorem kL_122 : CV RL 122 mX6_film 5 := ⟨TB_mem 718 (by decide +kernel) (by decide +kernel), TB_mem 719 (by decide +kernel) (by decide +kernel), TB_mem 720 (by decide +kernel) (by decide +kernel), okX6_film⟩
theorem kX6_228 : CV RX6 228 mX2_put 2 := ⟨TB_mem 722 (by decide +kernel) (by decide +kernel), TB_mem 723 (by decide +kernel) (by decide +kernel), TB_mem 724 (by decide +kernel) (by decide +kernel), okX2_put⟩
theorem kL_127 : CV RL 127 mX6_sheet 3 := ⟨TB_mem 726 (by decide +kernel) (by decide +kernel), TB_mem 727 (by decide +kernel) (by decide +kernel), TB_mem 728 (by decide +kernel) (by decide +kernel), okX6_sheet⟩
theorem kX6_232 : CV RX6 232 mX2_renew 2 := ⟨TB_mem 730 (by decide +kernel) (by decide +kernel), TB_mem 731 (by decide +kernel) (by decide +kernel), TB_mem 732 (by decide +kernel) (by decide +kernel), okX2_renew⟩
theorem kL_131 : CV RL 131 mX6_drop 1 := ⟨TB_mem 734 (by decide +kernel) (by decide +kernel), TB_mem 735 (by decide +kernel) (by decide +kernel), TB_mem 736 (by decide +kernel) (by decide +kernel), okX6_drop⟩
theorem kL_137 : CV RL 137 mX6_item 4 := ⟨TB_mem 738 (by decide +kernel) (by decide +kernel), TB_mem 739 (by decide +kernel) (by decide +kernel), TB_mem 740 (by decide +kernel) (by decide +kernel), okX6_item⟩
theorem kL_142 : CV RL 142 mX6_copy 5 := ⟨TB_mem 742 (by decide +kernel) (by decide +kernel), TB_mem 743 (by decide +kernel) (by decide +kernel), TB_mem 744 (by decide +kernel) (by decide +kernel), okX6_copy⟩
theorem kX6_243 : CV RX6 243 mX2_has 2 := ⟨TB_mem 746 (by decide +kernel) (by decide +kernel), TB_mem 703 (by decide +kernel) (by decide +kernel), TB_mem 704 (by decide +kernel) (by decide +kernel), okX2_has⟩
theorem lL_10 : Cond.classLink RL 10 RX7 ∈ TB := TB_mem 748 (by decide +kernel) (by decide +kernel)
theorem inX7 : Cond.instantiable RX7 13 ∈ TB := TB_mem 749 (by decide +kernel) (by decide +kernel)
theorem kL_12 : CI RL 12 mX7_init 0 := ⟨TB_mem 750 (by decide +kernel) (by decide +kernel), TB_mem 751 (by decide +kernel) (by decide +kernel), by decide +kernel, by decide +kernel, okX7_init⟩
theorem kX7_35 : CS RX7 35 mX7_begins 4 := ⟨TB_mem 754 (by decide +kernel) (by decide +kernel), TB_mem 755 (by decide +kernel) (by decide +kernel), okX7_begins⟩
theorem nX7_39 : Cond.constantLong RX7 39 (32) ∈ TB := TB_mem 757 (by decide +kernel) (by decide +kernel)
theorem nX7_41 : Cond.constantLong RX7 41 (36) ∈ TB := TB_mem 758 (by decide +kernel) (by decide +kernel)
theorem kX7_43 : CS RX7 43 mX7_in 3 := ⟨TB_mem 759 (by decide +kernel) (by decide +kernel), TB_mem 760 (by decide +kernel) (by decide +kernel), okX7_in⟩
theorem fX7_7 : FL RX7 7 7 0 := ⟨(RX7, TX7, 13), rfl, by decide, TB_mem 762 (by decide +kernel) (by decide +kernel)⟩
theorem fX7_13 : FL RX7 13 7 1 := ⟨(RX7, TX7, 13), rfl, by decide, TB_mem 763 (by decide +kernel) (by decide +kernel)⟩
theorem fX7_16 : FL RX7 16 7 2 := ⟨(RX7, TX7, 13), rfl, by decide, TB_mem 764 (by decide +kernel) (by decide +kernel)⟩
theorem fX7_19 : FL RX7 19 7 3 := ⟨(RX7, TX7, 13), rfl, by decide, TB_mem 765 (by decide +kernel) (by decide +kernel)⟩
theorem fX7_200 : FL RX7 200 7 4 := ⟨(RX7, TX7, 13), rfl, by decide, TB_mem 766 (by decide +kernel) (by decide +kernel)⟩
theorem fX7_22 : FL RX7 22 7 5 := ⟨(RX7, TX7, 13), rfl, by decide, TB_mem 767 (by decide +kernel) (by decide +kernel)⟩
theorem fX7_98 : FL RX7 98 7 6 := ⟨(RX7, TX7, 13), rfl, by decide, TB_mem 768 (by decide +kernel) (by decide +kernel)⟩
theorem fX7_25 : FL RX7 25 7 7 := ⟨(RX7, TX7, 13), rfl, by decide, TB_mem 769 (by decide +kernel) (by decide +kernel)⟩
theorem fX7_28 : FL RX7 28 7 8 := ⟨(RX7, TX7, 13), rfl, by decide, TB_mem 770 (by decide +kernel) (by decide +kernel)⟩
theorem fX7_31 : FL RX7 31 7 9 := ⟨(RX7, TX7, 13), rfl, by decide, TB_mem 771 (by decide +kernel) (by decide +kernel)⟩
theorem fX7_102 : FL RX7 102 7 10 := ⟨(RX7, TX7, 13), rfl, by decide, TB_mem 772 (by decide +kernel) (by decide +kernel)⟩
theorem fX7_113 : FL RX7 113 7 11 := ⟨(RX7, TX7, 13), rfl, by decide, TB_mem 773 (by decide +kernel) (by decide +kernel)⟩
theorem fX7_123 : FL RX7 123 7 12 := ⟨(RX7, TX7, 13), rfl, by decide, TB_mem 774 (by decide +kernel) (by decide +kernel)⟩
theorem kL_17 : CV RL 17 mX7_garden 2 := ⟨TB_mem 802 (by decide +kernel) (by decide +kernel), TB_mem 803 (by decide +kernel) (by decide +kernel), TB_mem 804 (by decide +kernel) (by decide +kernel), okX7_garden⟩
theorem nX7_70 : Cond.constantLong RX7 70 (4) ∈ TB := TB_mem 806 (by decide +kernel) (by decide +kernel)
theorem nX7_72 : Cond.constantLong RX7 72 (9) ∈ TB := TB_mem 807 (by decide +kernel) (by decide +kernel)
theorem kL_21 : CV RL 21 mX7_of 2 := ⟨TB_mem 808 (by decide +kernel) (by decide +kernel), TB_mem 809 (by decide +kernel) (by decide +kernel), TB_mem 810 (by decide +kernel) (by decide +kernel), okX7_of⟩
theorem kX7_74 : CV RX7 74 mX7_isGarden 1 := ⟨TB_mem 812 (by decide +kernel) (by decide +kernel), TB_mem 814 (by decide +kernel) (by decide +kernel), TB_mem 1 (by decide +kernel) (by decide +kernel), okX7_isGarden⟩
theorem nX7_78 : Cond.constantLong RX7 78 (5) ∈ TB := TB_mem 816 (by decide +kernel) (by decide +kernel)
theorem kX7_47 : CS RX7 47 mX7_galls 4 := ⟨TB_mem 817 (by decide +kernel) (by decide +kernel), TB_mem 818 (by decide +kernel) (by decide +kernel), okX7_galls⟩
theorem kX7_80 : CV RX7 80 mX7_sees 1 := ⟨TB_mem 820 (by decide +kernel) (by decide +kernel), TB_mem 822 (by decide +kernel) (by decide +kernel), TB_mem 2 (by decide +kernel) (by decide +kernel), okX7_sees⟩
theorem kL_25 : CV RL 25 mX7_wall 2 := ⟨TB_mem 824 (by decide +kernel) (by decide +kernel), TB_mem 825 (by decide +kernel) (by decide +kernel), TB_mem 826 (by decide +kernel) (by decide +kernel), okX7_wall⟩
theorem kX7_83 : CV RX7 83 mX7_isWall 1 := ⟨TB_mem 828 (by decide +kernel) (by decide +kernel), TB_mem 830 (by decide +kernel) (by decide +kernel), TB_mem 3 (by decide +kernel) (by decide +kernel), okX7_isWall⟩
theorem nX7_86 : Cond.constantLong RX7 86 (3) ∈ TB := TB_mem 832 (by decide +kernel) (by decide +kernel)
theorem kX7_51 : CS RX7 51 mX7_grows 2 := ⟨TB_mem 833 (by decide +kernel) (by decide +kernel), TB_mem 834 (by decide +kernel) (by decide +kernel), okX7_grows⟩
theorem kX7_67 : CV RX7 67 mX7_waits 1 := ⟨TB_mem 836 (by decide +kernel) (by decide +kernel), TB_mem 838 (by decide +kernel) (by decide +kernel), TB_mem 4 (by decide +kernel) (by decide +kernel), okX7_waits⟩
theorem kL_29 : CV RL 29 mX7_noise 2 := ⟨TB_mem 840 (by decide +kernel) (by decide +kernel), TB_mem 841 (by decide +kernel) (by decide +kernel), TB_mem 842 (by decide +kernel) (by decide +kernel), okX7_noise⟩
theorem kX7_88 : CV RX7 88 mX7_becomes 2 := ⟨TB_mem 844 (by decide +kernel) (by decide +kernel), TB_mem 846 (by decide +kernel) (by decide +kernel), TB_mem 5 (by decide +kernel) (by decide +kernel), okX7_becomes⟩
theorem kL_33 : CV RL 33 mX7_rule 2 := ⟨TB_mem 848 (by decide +kernel) (by decide +kernel), TB_mem 849 (by decide +kernel) (by decide +kernel), TB_mem 850 (by decide +kernel) (by decide +kernel), okX7_rule⟩
theorem nX7_92 : Cond.constantLong RX7 92 (2) ∈ TB := TB_mem 852 (by decide +kernel) (by decide +kernel)
theorem nX7_94 : Cond.constantLong RX7 94 (52) ∈ TB := TB_mem 853 (by decide +kernel) (by decide +kernel)
theorem kL_38 : CV RL 38 mX7_type 1 := ⟨TB_mem 854 (by decide +kernel) (by decide +kernel), TB_mem 855 (by decide +kernel) (by decide +kernel), TB_mem 856 (by decide +kernel) (by decide +kernel), okX7_type⟩
theorem nX7_96 : Cond.constantLong RX7 96 (126) ∈ TB := TB_mem 858 (by decide +kernel) (by decide +kernel)
theorem kL_43 : CV RL 43 mX7_street 0 := ⟨TB_mem 859 (by decide +kernel) (by decide +kernel), TB_mem 860 (by decide +kernel) (by decide +kernel), TB_mem 861 (by decide +kernel) (by decide +kernel), okX7_street⟩
theorem kX7_136 : CV RX7 136 mX7_reads 0 := ⟨TB_mem 863 (by decide +kernel) (by decide +kernel), TB_mem 865 (by decide +kernel) (by decide +kernel), TB_mem 6 (by decide +kernel) (by decide +kernel), okX7_reads⟩
theorem kX7_130 : CV RX7 130 mX7_readsYear 0 := ⟨TB_mem 867 (by decide +kernel) (by decide +kernel), TB_mem 869 (by decide +kernel) (by decide +kernel), TB_mem 7 (by decide +kernel) (by decide +kernel), okX7_readsYear⟩
theorem kX7_109 : CV RX7 109 mX7_here 0 := ⟨TB_mem 871 (by decide +kernel) (by decide +kernel), TB_mem 873 (by decide +kernel) (by decide +kernel), TB_mem 8 (by decide +kernel) (by decide +kernel), okX7_here⟩
theorem nX7_105 : Cond.constantLong RX7 105 (48) ∈ TB := TB_mem 875 (by decide +kernel) (by decide +kernel)
theorem nX7_107 : Cond.constantLong RX7 107 (57) ∈ TB := TB_mem 876 (by decide +kernel) (by decide +kernel)
theorem kX7_116 : CV RX7 116 mX7_isFigure 0 := ⟨TB_mem 877 (by decide +kernel) (by decide +kernel), TB_mem 879 (by decide +kernel) (by decide +kernel), TB_mem 9 (by decide +kernel) (by decide +kernel), okX7_isFigure⟩
theorem kX7_133 : CV RX7 133 mX7_readsGarden 0 := ⟨TB_mem 881 (by decide +kernel) (by decide +kernel), TB_mem 883 (by decide +kernel) (by decide +kernel), TB_mem 10 (by decide +kernel) (by decide +kernel), okX7_readsGarden⟩
theorem kX7_120 : CS RX7 120 mX7_kindOf 1 := ⟨TB_mem 885 (by decide +kernel) (by decide +kernel), TB_mem 886 (by decide +kernel) (by decide +kernel), okX7_kindOf⟩
theorem kX7_127 : CV RX7 127 mX7_readsQuarrel 1 := ⟨TB_mem 888 (by decide +kernel) (by decide +kernel), TB_mem 890 (by decide +kernel) (by decide +kernel), TB_mem 11 (by decide +kernel) (by decide +kernel), okX7_readsQuarrel⟩
theorem kX7_139 : CS RX7 139 mX7_copies 5 := ⟨TB_mem 892 (by decide +kernel) (by decide +kernel), TB_mem 893 (by decide +kernel) (by decide +kernel), okX7_copies⟩
theorem kL_47 : CV RL 47 mX7_count 1 := ⟨TB_mem 895 (by decide +kernel) (by decide +kernel), TB_mem 896 (by decide +kernel) (by decide +kernel), TB_mem 897 (by decide +kernel) (by decide +kernel), okX7_count⟩
theorem kX7_143 : CS RX7 143 mX7_coursesOf 1 := ⟨TB_mem 899 (by decide +kernel) (by decide +kernel), TB_mem 900 (by decide +kernel) (by decide +kernel), okX7_coursesOf⟩
theorem kX7_63 : CS RX7 63 mX7_sumOf 3 := ⟨TB_mem 902 (by decide +kernel) (by decide +kernel), TB_mem 903 (by decide +kernel) (by decide +kernel), okX7_sumOf⟩
theorem kX7_147 : CV RX7 147 mX7_until 0 := ⟨TB_mem 905 (by decide +kernel) (by decide +kernel), TB_mem 907 (by decide +kernel) (by decide +kernel), TB_mem 12 (by decide +kernel) (by decide +kernel), okX7_until⟩
theorem kX7_150 : CV RX7 150 mX7_maySorry 0 := ⟨TB_mem 909 (by decide +kernel) (by decide +kernel), TB_mem 911 (by decide +kernel) (by decide +kernel), TB_mem 13 (by decide +kernel) (by decide +kernel), okX7_maySorry⟩
theorem kL_51 : CV RL 51 mX7_weeks 1 := ⟨TB_mem 913 (by decide +kernel) (by decide +kernel), TB_mem 914 (by decide +kernel) (by decide +kernel), TB_mem 915 (by decide +kernel) (by decide +kernel), okX7_weeks⟩
theorem kX7_153 : CV RX7 153 mX7_remember 0 := ⟨TB_mem 917 (by decide +kernel) (by decide +kernel), TB_mem 919 (by decide +kernel) (by decide +kernel), TB_mem 14 (by decide +kernel) (by decide +kernel), okX7_remember⟩
theorem kX7_156 : CS RX7 156 mX7_goes 1 := ⟨TB_mem 921 (by decide +kernel) (by decide +kernel), TB_mem 922 (by decide +kernel) (by decide +kernel), okX7_goes⟩
theorem kX7_55 : CS RX7 55 mX7_bound 1 := ⟨TB_mem 924 (by decide +kernel) (by decide +kernel), TB_mem 925 (by decide +kernel) (by decide +kernel), okX7_bound⟩
theorem kX7_59 : CS RX7 59 mX7_michaelmas 1 := ⟨TB_mem 927 (by decide +kernel) (by decide +kernel), TB_mem 928 (by decide +kernel) (by decide +kernel), okX7_michaelmas⟩
theorem kL_55 : CV RL 55 mX7_sorry 1 := ⟨TB_mem 930 (by decide +kernel) (by decide +kernel), TB_mem 931 (by decide +kernel) (by decide +kernel), TB_mem 932 (by decide +kernel) (by decide +kernel), okX7_sorry⟩
theorem kX7_159 : CS RX7 159 mX7_sorries0 2 := ⟨TB_mem 934 (by decide +kernel) (by decide +kernel), TB_mem 935 (by decide +kernel) (by decide +kernel), okX7_sorries0⟩
theorem kL_60 : CV RL 60 mX7_gift 3 := ⟨TB_mem 937 (by decide +kernel) (by decide +kernel), TB_mem 938 (by decide +kernel) (by decide +kernel), TB_mem 939 (by decide +kernel) (by decide +kernel), okX7_gift⟩
theorem kX7_163 : CS RX7 163 mX7_isTwo 1 := ⟨TB_mem 941 (by decide +kernel) (by decide +kernel), TB_mem 942 (by decide +kernel) (by decide +kernel), okX7_isTwo⟩
theorem nX7_166 : Cond.constantLong RX7 166 (400) ∈ TB := TB_mem 944 (by decide +kernel) (by decide +kernel)
theorem kX7_168 : CS RX7 168 mX7_root 1 := ⟨TB_mem 945 (by decide +kernel) (by decide +kernel), TB_mem 946 (by decide +kernel) (by decide +kernel), okX7_root⟩
theorem kL_64 : CV RL 64 mX7_gossip 2 := ⟨TB_mem 948 (by decide +kernel) (by decide +kernel), TB_mem 949 (by decide +kernel) (by decide +kernel), TB_mem 950 (by decide +kernel) (by decide +kernel), okX7_gossip⟩
theorem kL_68 : CV RL 68 mX7_lovers 1 := ⟨TB_mem 952 (by decide +kernel) (by decide +kernel), TB_mem 953 (by decide +kernel) (by decide +kernel), TB_mem 954 (by decide +kernel) (by decide +kernel), okX7_lovers⟩
theorem kL_72 : CV RL 72 mX7_falls 1 := ⟨TB_mem 956 (by decide +kernel) (by decide +kernel), TB_mem 957 (by decide +kernel) (by decide +kernel), TB_mem 958 (by decide +kernel) (by decide +kernel), okX7_falls⟩
theorem kX7_171 : CV RX7 171 mX7_fall 1 := ⟨TB_mem 960 (by decide +kernel) (by decide +kernel), TB_mem 962 (by decide +kernel) (by decide +kernel), TB_mem 15 (by decide +kernel) (by decide +kernel), okX7_fall⟩
theorem kL_76 : CV RL 76 mX7_drift 1 := ⟨TB_mem 964 (by decide +kernel) (by decide +kernel), TB_mem 965 (by decide +kernel) (by decide +kernel), TB_mem 966 (by decide +kernel) (by decide +kernel), okX7_drift⟩
theorem nX7_175 : Cond.constantLong RX7 175 (1103515245) ∈ TB := TB_mem 968 (by decide +kernel) (by decide +kernel)
theorem nX7_177 : Cond.constantLong RX7 177 (12345) ∈ TB := TB_mem 969 (by decide +kernel) (by decide +kernel)
theorem nX7_179 : Cond.constantLong RX7 179 (2147483648) ∈ TB := TB_mem 970 (by decide +kernel) (by decide +kernel)
theorem nX7_181 : Cond.constant RX7 181 (65536) ∈ TB := TB_mem 971 (by decide +kernel) (by decide +kernel)
theorem kL_80 : CV RL 80 mX7_undo 0 := ⟨TB_mem 972 (by decide +kernel) (by decide +kernel), TB_mem 973 (by decide +kernel) (by decide +kernel), TB_mem 974 (by decide +kernel) (by decide +kernel), okX7_undo⟩
theorem kL_84 : CV RL 84 mX7_seed 1 := ⟨TB_mem 976 (by decide +kernel) (by decide +kernel), TB_mem 977 (by decide +kernel) (by decide +kernel), TB_mem 978 (by decide +kernel) (by decide +kernel), okX7_seed⟩
theorem kL_88 : CV RL 88 mX7_ahead 3 := ⟨TB_mem 980 (by decide +kernel) (by decide +kernel), TB_mem 981 (by decide +kernel) (by decide +kernel), TB_mem 982 (by decide +kernel) (by decide +kernel), okX7_ahead⟩
theorem nX7_182 : Cond.constantLong RX7 182 (104) ∈ TB := TB_mem 984 (by decide +kernel) (by decide +kernel)
theorem kX7_184 : CV RX7 184 mX7_layAside 0 := ⟨TB_mem 985 (by decide +kernel) (by decide +kernel), TB_mem 987 (by decide +kernel) (by decide +kernel), TB_mem 16 (by decide +kernel) (by decide +kernel), okX7_layAside⟩
theorem kX7_187 : CV RX7 187 mX7_go 1 := ⟨TB_mem 989 (by decide +kernel) (by decide +kernel), TB_mem 991 (by decide +kernel) (by decide +kernel), TB_mem 17 (by decide +kernel) (by decide +kernel), okX7_go⟩
theorem kL_92 : CV RL 92 mX7_settles 0 := ⟨TB_mem 993 (by decide +kernel) (by decide +kernel), TB_mem 994 (by decide +kernel) (by decide +kernel), TB_mem 995 (by decide +kernel) (by decide +kernel), okX7_settles⟩
theorem kL_96 : CV RL 96 mX7_leastGift 2 := ⟨TB_mem 997 (by decide +kernel) (by decide +kernel), TB_mem 998 (by decide +kernel) (by decide +kernel), TB_mem 999 (by decide +kernel) (by decide +kernel), okX7_leastGift⟩
theorem nX7_190 : Cond.constantLong RX7 190 (19) ∈ TB := TB_mem 1001 (by decide +kernel) (by decide +kernel)
theorem kL_100 : CV RL 100 mX7_sorries 2 := ⟨TB_mem 1002 (by decide +kernel) (by decide +kernel), TB_mem 1003 (by decide +kernel) (by decide +kernel), TB_mem 1004 (by decide +kernel) (by decide +kernel), okX7_sorries⟩
theorem nX7_192 : Cond.constant RX7 192 (1000000) ∈ TB := TB_mem 1006 (by decide +kernel) (by decide +kernel)
theorem kX7_193 : CS RX7 193 mX7_bits 1 := ⟨TB_mem 1007 (by decide +kernel) (by decide +kernel), TB_mem 1008 (by decide +kernel) (by decide +kernel), okX7_bits⟩
theorem kX7_196 : CS RX7 196 mX7_has 2 := ⟨TB_mem 1010 (by decide +kernel) (by decide +kernel), TB_mem 1011 (by decide +kernel) (by decide +kernel), okX7_has⟩
theorem kL_104 : CV RL 104 mX7_stir 2 := ⟨TB_mem 1013 (by decide +kernel) (by decide +kernel), TB_mem 1014 (by decide +kernel) (by decide +kernel), TB_mem 1015 (by decide +kernel) (by decide +kernel), okX7_stir⟩
theorem kL_108 : CV RL 108 mX7_holds 1 := ⟨TB_mem 1017 (by decide +kernel) (by decide +kernel), TB_mem 1018 (by decide +kernel) (by decide +kernel), TB_mem 1019 (by decide +kernel) (by decide +kernel), okX7_holds⟩
theorem kL_112 : CV RL 112 mX7_image 0 := ⟨TB_mem 1021 (by decide +kernel) (by decide +kernel), TB_mem 1022 (by decide +kernel) (by decide +kernel), TB_mem 1023 (by decide +kernel) (by decide +kernel), okX7_image⟩
theorem kL_116 : CV RL 116 mX7_restore 0 := ⟨TB_mem 1025 (by decide +kernel) (by decide +kernel), TB_mem 1026 (by decide +kernel) (by decide +kernel), TB_mem 1027 (by decide +kernel) (by decide +kernel), okX7_restore⟩
theorem kL_121 : CV RL 121 mX7_seen 6 := ⟨TB_mem 1029 (by decide +kernel) (by decide +kernel), TB_mem 1030 (by decide +kernel) (by decide +kernel), TB_mem 1031 (by decide +kernel) (by decide +kernel), okX7_seen⟩
theorem kX7_203 : CS RX7 203 mX7_isSheet 2 := ⟨TB_mem 1033 (by decide +kernel) (by decide +kernel), TB_mem 1034 (by decide +kernel) (by decide +kernel), okX7_isSheet⟩
theorem nX7_206 : Cond.constantLong RX7 206 (6) ∈ TB := TB_mem 1036 (by decide +kernel) (by decide +kernel)
theorem kX7_208 : CV RX7 208 mX7_found 4 := ⟨TB_mem 1037 (by decide +kernel) (by decide +kernel), TB_mem 1039 (by decide +kernel) (by decide +kernel), TB_mem 18 (by decide +kernel) (by decide +kernel), okX7_found⟩
theorem kL_126 : CV RL 126 mX7_film 5 := ⟨TB_mem 1041 (by decide +kernel) (by decide +kernel), TB_mem 1042 (by decide +kernel) (by decide +kernel), TB_mem 1043 (by decide +kernel) (by decide +kernel), okX7_film⟩
theorem nX7_212 : Cond.constantLong RX7 212 (24) ∈ TB := TB_mem 1045 (by decide +kernel) (by decide +kernel)
theorem kX7_214 : CS RX7 214 mX7_cut 2 := ⟨TB_mem 1046 (by decide +kernel) (by decide +kernel), TB_mem 1047 (by decide +kernel) (by decide +kernel), okX7_cut⟩
theorem kL_130 : CV RL 130 mX7_sheet 3 := ⟨TB_mem 1049 (by decide +kernel) (by decide +kernel), TB_mem 1050 (by decide +kernel) (by decide +kernel), TB_mem 1051 (by decide +kernel) (by decide +kernel), okX7_sheet⟩
theorem kL_134 : CV RL 134 mX7_drop 1 := ⟨TB_mem 1053 (by decide +kernel) (by decide +kernel), TB_mem 1054 (by decide +kernel) (by decide +kernel), TB_mem 1055 (by decide +kernel) (by decide +kernel), okX7_drop⟩
theorem kL_141 : CV RL 141 mX7_item 4 := ⟨TB_mem 1057 (by decide +kernel) (by decide +kernel), TB_mem 1058 (by decide +kernel) (by decide +kernel), TB_mem 1059 (by decide +kernel) (by decide +kernel), okX7_item⟩
theorem kL_145 : CV RL 145 mX7_copy 5 := ⟨TB_mem 1061 (by decide +kernel) (by decide +kernel), TB_mem 1062 (by decide +kernel) (by decide +kernel), TB_mem 1063 (by decide +kernel) (by decide +kernel), okX7_copy⟩
theorem nL_135 : Cond.constantLong RL 135 (4294967295) ∈ TB := TB_mem 1065 (by decide +kernel) (by decide +kernel)
end
section
theorem dX0_init_0 : St mX0_init 0 (.aload_n 0) 1 1 := ⟨by decide +kernel, rfl⟩
theorem dX0_init_1 : St mX0_init 1 (.invokespecial 3) 3 4 := ⟨by decide +kernel, rfl⟩
theorem dX0_init_4 : St mX0_init 4 (.aload_n 0) 1 5 := ⟨by decide +kernel, rfl⟩
theorem dX0_init_5 : St mX0_init 5 (.iconst 5) 1 6 := ⟨by decide +kernel, rfl⟩
theorem dX0_init_6 : St mX0_init 6 (.newarray .int) 2 8 := ⟨by decide +kernel, rfl⟩
theorem dX0_init_8 : St mX0_init 8 (.putfield 9) 3 11 := ⟨by decide +kernel, rfl⟩
theorem dX0_init_11 : St mX0_init 11 (.aload_n 0) 1 12 := ⟨by decide +kernel, rfl⟩
theorem dX0_init_12 : St mX0_init 12 (.iconst 5) 1 13 := ⟨by decide +kernel, rfl⟩
theorem dX0_init_13 : St mX0_init 13 (.newarray .int) 2 15 := ⟨by decide +kernel, rfl⟩
theorem dX0_init_15 : St mX0_init 15 (.putfield 15) 3 18 := ⟨by decide +kernel, rfl⟩
theorem dX0_init_18 : St mX0_init 18 (.aload_n 0) 1 19 := ⟨by decide +kernel, rfl⟩
theorem dX0_init_19 : St mX0_init 19 (.iconst 5) 1 20 := ⟨by decide +kernel, rfl⟩
theorem dX0_init_20 : St mX0_init 20 (.newarray .int) 2 22 := ⟨by decide +kernel, rfl⟩
theorem dX0_init_22 : St mX0_init 22 (.putfield 18) 3 25 := ⟨by decide +kernel, rfl⟩
theorem dX0_init_25 : St mX0_init 25 (.aload_n 0) 1 26 := ⟨by decide +kernel, rfl⟩
theorem dX0_init_26 : St mX0_init 26 (.iconst 5) 1 27 := ⟨by decide +kernel, rfl⟩
theorem dX0_init_27 : St mX0_init 27 (.newarray .int) 2 29 := ⟨by decide +kernel, rfl⟩
theorem dX0_init_29 : St mX0_init 29 (.putfield 21) 3 32 := ⟨by decide +kernel, rfl⟩
theorem dX0_init_32 : St mX0_init 32 (.aload_n 0) 1 33 := ⟨by decide +kernel, rfl⟩
theorem dX0_init_33 : St mX0_init 33 (.aload_n 1) 1 34 := ⟨by decide +kernel, rfl⟩
theorem dX0_init_34 : St mX0_init 34 (.putfield 24) 3 37 := ⟨by decide +kernel, rfl⟩
theorem dX0_init_37 : St mX0_init 37 (.return_) 1 38 := ⟨by decide +kernel, rfl⟩
theorem dX0_grown_0 : St mX0_grown 0 (.iload_n 2) 1 1 := ⟨by decide +kernel, rfl⟩
theorem dX0_grown_1 : St mX0_grown 1 (.iload 4) 2 3 := ⟨by decide +kernel, rfl⟩
theorem dX0_grown_3 : St mX0_grown 3 (.aload_n 0) 1 4 := ⟨by decide +kernel, rfl⟩
theorem dX0_grown_4 : St mX0_grown 4 (.getfield 24) 3 7 := ⟨by decide +kernel, rfl⟩
theorem dX0_grown_7 : St mX0_grown 7 (.iload_n 1) 1 8 := ⟨by decide +kernel, rfl⟩
theorem dX0_grown_8 : St mX0_grown 8 (.iload_n 3) 1 9 := ⟨by decide +kernel, rfl⟩
theorem dX0_grown_9 : St mX0_grown 9 (.invokevirtual 28) 3 12 := ⟨by decide +kernel, rfl⟩
theorem dX0_grown_12 : St mX0_grown 12 (.imul) 1 13 := ⟨by decide +kernel, rfl⟩
theorem dX0_grown_13 : St mX0_grown 13 (.iadd) 1 14 := ⟨by decide +kernel, rfl⟩
theorem dX0_grown_14 : St mX0_grown 14 (.invokestatic 34) 3 17 := ⟨by decide +kernel, rfl⟩
theorem dX0_grown_17 : St mX0_grown 17 (.ireturn) 1 18 := ⟨by decide +kernel, rfl⟩
theorem dX0_behind_0 : St mX0_behind 0 (.aload_n 0) 1 1 := ⟨by decide +kernel, rfl⟩
theorem dX0_behind_1 : St mX0_behind 1 (.getfield 24) 3 4 := ⟨by decide +kernel, rfl⟩
theorem dX0_behind_4 : St mX0_behind 4 (.getfield 38) 3 7 := ⟨by decide +kernel, rfl⟩
theorem dX0_behind_7 : St mX0_behind 7 (.getfield 42) 3 10 := ⟨by decide +kernel, rfl⟩
theorem dX0_behind_10 : St mX0_behind 10 (.iload_n 1) 1 11 := ⟨by decide +kernel, rfl⟩
theorem dX0_behind_11 : St mX0_behind 11 (.iaload) 1 12 := ⟨by decide +kernel, rfl⟩
theorem dX0_behind_12 : St mX0_behind 12 (.istore 4) 2 14 := ⟨by decide +kernel, rfl⟩
theorem dX0_behind_14 : St mX0_behind 14 (.aload_n 0) 1 15 := ⟨by decide +kernel, rfl⟩
theorem dX0_behind_15 : St mX0_behind 15 (.getfield 24) 3 18 := ⟨by decide +kernel, rfl⟩
theorem dX0_behind_18 : St mX0_behind 18 (.getfield 38) 3 21 := ⟨by decide +kernel, rfl⟩
theorem dX0_behind_21 : St mX0_behind 21 (.getfield 45) 3 24 := ⟨by decide +kernel, rfl⟩
theorem dX0_behind_24 : St mX0_behind 24 (.iload_n 1) 1 25 := ⟨by decide +kernel, rfl⟩
theorem dX0_behind_25 : St mX0_behind 25 (.iaload) 1 26 := ⟨by decide +kernel, rfl⟩
theorem dX0_behind_26 : St mX0_behind 26 (.istore 5) 2 28 := ⟨by decide +kernel, rfl⟩
theorem dX0_behind_28 : St mX0_behind 28 (.iload_n 2) 1 29 := ⟨by decide +kernel, rfl⟩
theorem dX0_behind_29 : St mX0_behind 29 (.istore 6) 2 31 := ⟨by decide +kernel, rfl⟩
theorem dX0_behind_31 : St mX0_behind 31 (.aload_n 0) 1 32 := ⟨by decide +kernel, rfl⟩
theorem dX0_behind_32 : St mX0_behind 32 (.getfield 24) 3 35 := ⟨by decide +kernel, rfl⟩
theorem dX0_behind_35 : St mX0_behind 35 (.invokevirtual 46) 3 38 := ⟨by decide +kernel, rfl⟩
theorem dX0_behind_38 : St mX0_behind 38 (.istore 7) 2 40 := ⟨by decide +kernel, rfl⟩
theorem dX0_behind_40 : St mX0_behind 40 (.iconst 0) 1 41 := ⟨by decide +kernel, rfl⟩
theorem dX0_behind_41 : St mX0_behind 41 (.istore 8) 2 43 := ⟨by decide +kernel, rfl⟩
theorem dX0_behind_43 : St mX0_behind 43 (.iload 8) 2 45 := ⟨by decide +kernel, rfl⟩
theorem dX0_behind_45 : St mX0_behind 45 (.bipush 104) 2 47 := ⟨by decide +kernel, rfl⟩
theorem dX0_behind_47 : St mX0_behind 47 (.if_icmp .ge 52) 3 50 := ⟨by decide +kernel, rfl⟩
theorem dX0_behind_50 : St mX0_behind 50 (.iload 6) 2 52 := ⟨by decide +kernel, rfl⟩
theorem dX0_behind_52 : St mX0_behind 52 (.iload 7) 2 54 := ⟨by decide +kernel, rfl⟩
theorem dX0_behind_54 : St mX0_behind 54 (.if_icmp .lt 45) 3 57 := ⟨by decide +kernel, rfl⟩
theorem dX0_behind_57 : St mX0_behind 57 (.aload_n 0) 1 58 := ⟨by decide +kernel, rfl⟩
theorem dX0_behind_58 : St mX0_behind 58 (.iload_n 1) 1 59 := ⟨by decide +kernel, rfl⟩
theorem dX0_behind_59 : St mX0_behind 59 (.iload 4) 2 61 := ⟨by decide +kernel, rfl⟩
theorem dX0_behind_61 : St mX0_behind 61 (.iload 5) 2 63 := ⟨by decide +kernel, rfl⟩
theorem dX0_behind_63 : St mX0_behind 63 (.iload 7) 2 65 := ⟨by decide +kernel, rfl⟩
theorem dX0_behind_65 : St mX0_behind 65 (.invokevirtual 50) 3 68 := ⟨by decide +kernel, rfl⟩
theorem dX0_behind_68 : St mX0_behind 68 (.istore 4) 2 70 := ⟨by decide +kernel, rfl⟩
theorem dX0_behind_70 : St mX0_behind 70 (.iload 4) 2 72 := ⟨by decide +kernel, rfl⟩
theorem dX0_behind_72 : St mX0_behind 72 (.invokestatic 54) 3 75 := ⟨by decide +kernel, rfl⟩
theorem dX0_behind_75 : St mX0_behind 75 (.istore 5) 2 77 := ⟨by decide +kernel, rfl⟩
theorem dX0_behind_77 : St mX0_behind 77 (.iload 6) 2 79 := ⟨by decide +kernel, rfl⟩
theorem dX0_behind_79 : St mX0_behind 79 (.iload 7) 2 81 := ⟨by decide +kernel, rfl⟩
theorem dX0_behind_81 : St mX0_behind 81 (.isub) 1 82 := ⟨by decide +kernel, rfl⟩
theorem dX0_behind_82 : St mX0_behind 82 (.istore 6) 2 84 := ⟨by decide +kernel, rfl⟩
theorem dX0_behind_84 : St mX0_behind 84 (.aload_n 0) 1 85 := ⟨by decide +kernel, rfl⟩
theorem dX0_behind_85 : St mX0_behind 85 (.getfield 24) 3 88 := ⟨by decide +kernel, rfl⟩
theorem dX0_behind_88 : St mX0_behind 88 (.getfield 57) 3 91 := ⟨by decide +kernel, rfl⟩
theorem dX0_behind_91 : St mX0_behind 91 (.istore 7) 2 93 := ⟨by decide +kernel, rfl⟩
theorem dX0_behind_93 : St mX0_behind 93 (.iinc 8 1) 3 96 := ⟨by decide +kernel, rfl⟩
theorem dX0_behind_96 : St mX0_behind 96 (.goto (-53)) 3 99 := ⟨by decide +kernel, rfl⟩
theorem dX0_behind_99 : St mX0_behind 99 (.iload_n 3) 1 100 := ⟨by decide +kernel, rfl⟩
theorem dX0_behind_100 : St mX0_behind 100 (.ifCond .ne 8) 3 103 := ⟨by decide +kernel, rfl⟩
theorem dX0_behind_103 : St mX0_behind 103 (.iload 5) 2 105 := ⟨by decide +kernel, rfl⟩
theorem dX0_behind_105 : St mX0_behind 105 (.goto 14) 3 108 := ⟨by decide +kernel, rfl⟩
theorem dX0_behind_108 : St mX0_behind 108 (.aload_n 0) 1 109 := ⟨by decide +kernel, rfl⟩
theorem dX0_behind_109 : St mX0_behind 109 (.iload_n 1) 1 110 := ⟨by decide +kernel, rfl⟩
theorem dX0_behind_110 : St mX0_behind 110 (.iload 4) 2 112 := ⟨by decide +kernel, rfl⟩
theorem dX0_behind_112 : St mX0_behind 112 (.iload 5) 2 114 := ⟨by decide +kernel, rfl⟩
theorem dX0_behind_114 : St mX0_behind 114 (.iload 6) 2 116 := ⟨by decide +kernel, rfl⟩
theorem dX0_behind_116 : St mX0_behind 116 (.invokevirtual 50) 3 119 := ⟨by decide +kernel, rfl⟩
theorem dX0_behind_119 : St mX0_behind 119 (.ireturn) 1 120 := ⟨by decide +kernel, rfl⟩
theorem dX0_allBehind_0 : St mX0_allBehind 0 (.iconst 0) 1 1 := ⟨by decide +kernel, rfl⟩
theorem dX0_allBehind_1 : St mX0_allBehind 1 (.istore_n 3) 1 2 := ⟨by decide +kernel, rfl⟩
theorem dX0_allBehind_2 : St mX0_allBehind 2 (.iconst 0) 1 3 := ⟨by decide +kernel, rfl⟩
theorem dX0_allBehind_3 : St mX0_allBehind 3 (.istore 4) 2 5 := ⟨by decide +kernel, rfl⟩
theorem dX0_allBehind_5 : St mX0_allBehind 5 (.iload 4) 2 7 := ⟨by decide +kernel, rfl⟩
theorem dX0_allBehind_7 : St mX0_allBehind 7 (.aload_n 0) 1 8 := ⟨by decide +kernel, rfl⟩
theorem dX0_allBehind_8 : St mX0_allBehind 8 (.getfield 24) 3 11 := ⟨by decide +kernel, rfl⟩
theorem dX0_allBehind_11 : St mX0_allBehind 11 (.invokevirtual 61) 3 14 := ⟨by decide +kernel, rfl⟩
theorem dX0_allBehind_14 : St mX0_allBehind 14 (.if_icmp .ge 20) 3 17 := ⟨by decide +kernel, rfl⟩
theorem dX0_allBehind_17 : St mX0_allBehind 17 (.iload_n 3) 1 18 := ⟨by decide +kernel, rfl⟩
theorem dX0_allBehind_18 : St mX0_allBehind 18 (.aload_n 0) 1 19 := ⟨by decide +kernel, rfl⟩
theorem dX0_allBehind_19 : St mX0_allBehind 19 (.iload 4) 2 21 := ⟨by decide +kernel, rfl⟩
theorem dX0_allBehind_21 : St mX0_allBehind 21 (.iload_n 1) 1 22 := ⟨by decide +kernel, rfl⟩
theorem dX0_allBehind_22 : St mX0_allBehind 22 (.iload_n 2) 1 23 := ⟨by decide +kernel, rfl⟩
theorem dX0_allBehind_23 : St mX0_allBehind 23 (.invokevirtual 64) 3 26 := ⟨by decide +kernel, rfl⟩
theorem dX0_allBehind_26 : St mX0_allBehind 26 (.iadd) 1 27 := ⟨by decide +kernel, rfl⟩
theorem dX0_allBehind_27 : St mX0_allBehind 27 (.istore_n 3) 1 28 := ⟨by decide +kernel, rfl⟩
theorem dX0_allBehind_28 : St mX0_allBehind 28 (.iinc 4 1) 3 31 := ⟨by decide +kernel, rfl⟩
theorem dX0_allBehind_31 : St mX0_allBehind 31 (.goto (-26)) 3 34 := ⟨by decide +kernel, rfl⟩
theorem dX0_allBehind_34 : St mX0_allBehind 34 (.iload_n 3) 1 35 := ⟨by decide +kernel, rfl⟩
theorem dX0_allBehind_35 : St mX0_allBehind 35 (.ireturn) 1 36 := ⟨by decide +kernel, rfl⟩
theorem dX0_changingMichaelmases_0 : St mX0_changingMichaelmases 0 (.aload_n 0) 1 1 := ⟨by decide +kernel, rfl⟩
theorem dX0_changingMichaelmases_1 : St mX0_changingMichaelmases 1 (.getfield 24) 3 4 := ⟨by decide +kernel, rfl⟩
theorem dX0_changingMichaelmases_4 : St mX0_changingMichaelmases 4 (.getfield 38) 3 7 := ⟨by decide +kernel, rfl⟩
theorem dX0_changingMichaelmases_7 : St mX0_changingMichaelmases 7 (.getfield 45) 3 10 := ⟨by decide +kernel, rfl⟩
theorem dX0_changingMichaelmases_10 : St mX0_changingMichaelmases 10 (.iconst 0) 1 11 := ⟨by decide +kernel, rfl⟩
theorem dX0_changingMichaelmases_11 : St mX0_changingMichaelmases 11 (.aload_n 0) 1 12 := ⟨by decide +kernel, rfl⟩
theorem dX0_changingMichaelmases_12 : St mX0_changingMichaelmases 12 (.getfield 9) 3 15 := ⟨by decide +kernel, rfl⟩
theorem dX0_changingMichaelmases_15 : St mX0_changingMichaelmases 15 (.iconst 0) 1 16 := ⟨by decide +kernel, rfl⟩
theorem dX0_changingMichaelmases_16 : St mX0_changingMichaelmases 16 (.iconst 5) 1 17 := ⟨by decide +kernel, rfl⟩
theorem dX0_changingMichaelmases_17 : St mX0_changingMichaelmases 17 (.invokestatic 68) 3 20 := ⟨by decide +kernel, rfl⟩
theorem dX0_changingMichaelmases_20 : St mX0_changingMichaelmases 20 (.aload_n 0) 1 21 := ⟨by decide +kernel, rfl⟩
theorem dX0_changingMichaelmases_21 : St mX0_changingMichaelmases 21 (.getfield 24) 3 24 := ⟨by decide +kernel, rfl⟩
theorem dX0_changingMichaelmases_24 : St mX0_changingMichaelmases 24 (.getfield 38) 3 27 := ⟨by decide +kernel, rfl⟩
theorem dX0_changingMichaelmases_27 : St mX0_changingMichaelmases 27 (.getfield 42) 3 30 := ⟨by decide +kernel, rfl⟩
theorem dX0_changingMichaelmases_30 : St mX0_changingMichaelmases 30 (.iconst 0) 1 31 := ⟨by decide +kernel, rfl⟩
theorem dX0_changingMichaelmases_31 : St mX0_changingMichaelmases 31 (.aload_n 0) 1 32 := ⟨by decide +kernel, rfl⟩
theorem dX0_changingMichaelmases_32 : St mX0_changingMichaelmases 32 (.getfield 15) 3 35 := ⟨by decide +kernel, rfl⟩
theorem dX0_changingMichaelmases_35 : St mX0_changingMichaelmases 35 (.iconst 0) 1 36 := ⟨by decide +kernel, rfl⟩
theorem dX0_changingMichaelmases_36 : St mX0_changingMichaelmases 36 (.iconst 5) 1 37 := ⟨by decide +kernel, rfl⟩
theorem dX0_changingMichaelmases_37 : St mX0_changingMichaelmases 37 (.invokestatic 68) 3 40 := ⟨by decide +kernel, rfl⟩
theorem dX0_changingMichaelmases_40 : St mX0_changingMichaelmases 40 (.aload_n 0) 1 41 := ⟨by decide +kernel, rfl⟩
theorem dX0_changingMichaelmases_41 : St mX0_changingMichaelmases 41 (.getfield 24) 3 44 := ⟨by decide +kernel, rfl⟩
theorem dX0_changingMichaelmases_44 : St mX0_changingMichaelmases 44 (.invokevirtual 46) 3 47 := ⟨by decide +kernel, rfl⟩
theorem dX0_changingMichaelmases_47 : St mX0_changingMichaelmases 47 (.istore_n 1) 1 48 := ⟨by decide +kernel, rfl⟩
theorem dX0_changingMichaelmases_48 : St mX0_changingMichaelmases 48 (.iconst 0) 1 49 := ⟨by decide +kernel, rfl⟩
theorem dX0_changingMichaelmases_49 : St mX0_changingMichaelmases 49 (.istore_n 2) 1 50 := ⟨by decide +kernel, rfl⟩
theorem dX0_changingMichaelmases_50 : St mX0_changingMichaelmases 50 (.iload_n 2) 1 51 := ⟨by decide +kernel, rfl⟩
theorem dX0_changingMichaelmases_51 : St mX0_changingMichaelmases 51 (.bipush 20) 2 53 := ⟨by decide +kernel, rfl⟩
theorem dX0_changingMichaelmases_53 : St mX0_changingMichaelmases 53 (.if_icmp .gt 27) 3 56 := ⟨by decide +kernel, rfl⟩
theorem dX0_changingMichaelmases_56 : St mX0_changingMichaelmases 56 (.aload_n 0) 1 57 := ⟨by decide +kernel, rfl⟩
theorem dX0_changingMichaelmases_57 : St mX0_changingMichaelmases 57 (.iload_n 1) 1 58 := ⟨by decide +kernel, rfl⟩
theorem dX0_changingMichaelmases_58 : St mX0_changingMichaelmases 58 (.invokevirtual 74) 3 61 := ⟨by decide +kernel, rfl⟩
theorem dX0_changingMichaelmases_61 : St mX0_changingMichaelmases 61 (.ifCond .ne 5) 3 64 := ⟨by decide +kernel, rfl⟩
theorem dX0_changingMichaelmases_64 : St mX0_changingMichaelmases 64 (.iload_n 2) 1 65 := ⟨by decide +kernel, rfl⟩
theorem dX0_changingMichaelmases_65 : St mX0_changingMichaelmases 65 (.ireturn) 1 66 := ⟨by decide +kernel, rfl⟩
theorem dX0_changingMichaelmases_66 : St mX0_changingMichaelmases 66 (.aload_n 0) 1 67 := ⟨by decide +kernel, rfl⟩
theorem dX0_changingMichaelmases_67 : St mX0_changingMichaelmases 67 (.getfield 24) 3 70 := ⟨by decide +kernel, rfl⟩
theorem dX0_changingMichaelmases_70 : St mX0_changingMichaelmases 70 (.getfield 57) 3 73 := ⟨by decide +kernel, rfl⟩
theorem dX0_changingMichaelmases_73 : St mX0_changingMichaelmases 73 (.istore_n 1) 1 74 := ⟨by decide +kernel, rfl⟩
theorem dX0_changingMichaelmases_74 : St mX0_changingMichaelmases 74 (.iinc 2 1) 3 77 := ⟨by decide +kernel, rfl⟩
theorem dX0_changingMichaelmases_77 : St mX0_changingMichaelmases 77 (.goto (-27)) 3 80 := ⟨by decide +kernel, rfl⟩
theorem dX0_changingMichaelmases_80 : St mX0_changingMichaelmases 80 (.bipush (-4)) 2 82 := ⟨by decide +kernel, rfl⟩
theorem dX0_changingMichaelmases_82 : St mX0_changingMichaelmases 82 (.ireturn) 1 83 := ⟨by decide +kernel, rfl⟩
theorem dX0_michaelmasChanges_0 : St mX0_michaelmasChanges 0 (.iconst 0) 1 1 := ⟨by decide +kernel, rfl⟩
theorem dX0_michaelmasChanges_1 : St mX0_michaelmasChanges 1 (.istore_n 2) 1 2 := ⟨by decide +kernel, rfl⟩
theorem dX0_michaelmasChanges_2 : St mX0_michaelmasChanges 2 (.iconst 0) 1 3 := ⟨by decide +kernel, rfl⟩
theorem dX0_michaelmasChanges_3 : St mX0_michaelmasChanges 3 (.istore_n 3) 1 4 := ⟨by decide +kernel, rfl⟩
theorem dX0_michaelmasChanges_4 : St mX0_michaelmasChanges 4 (.iload_n 3) 1 5 := ⟨by decide +kernel, rfl⟩
theorem dX0_michaelmasChanges_5 : St mX0_michaelmasChanges 5 (.aload_n 0) 1 6 := ⟨by decide +kernel, rfl⟩
theorem dX0_michaelmasChanges_6 : St mX0_michaelmasChanges 6 (.getfield 24) 3 9 := ⟨by decide +kernel, rfl⟩
theorem dX0_michaelmasChanges_9 : St mX0_michaelmasChanges 9 (.invokevirtual 61) 3 12 := ⟨by decide +kernel, rfl⟩
theorem dX0_michaelmasChanges_12 : St mX0_michaelmasChanges 12 (.if_icmp .ge 73) 3 15 := ⟨by decide +kernel, rfl⟩
theorem dX0_michaelmasChanges_15 : St mX0_michaelmasChanges 15 (.aload_n 0) 1 16 := ⟨by decide +kernel, rfl⟩
theorem dX0_michaelmasChanges_16 : St mX0_michaelmasChanges 16 (.getfield 15) 3 19 := ⟨by decide +kernel, rfl⟩
theorem dX0_michaelmasChanges_19 : St mX0_michaelmasChanges 19 (.iload_n 3) 1 20 := ⟨by decide +kernel, rfl⟩
theorem dX0_michaelmasChanges_20 : St mX0_michaelmasChanges 20 (.aload_n 0) 1 21 := ⟨by decide +kernel, rfl⟩
theorem dX0_michaelmasChanges_21 : St mX0_michaelmasChanges 21 (.iload_n 3) 1 22 := ⟨by decide +kernel, rfl⟩
theorem dX0_michaelmasChanges_22 : St mX0_michaelmasChanges 22 (.aload_n 0) 1 23 := ⟨by decide +kernel, rfl⟩
theorem dX0_michaelmasChanges_23 : St mX0_michaelmasChanges 23 (.getfield 15) 3 26 := ⟨by decide +kernel, rfl⟩
theorem dX0_michaelmasChanges_26 : St mX0_michaelmasChanges 26 (.iload_n 3) 1 27 := ⟨by decide +kernel, rfl⟩
theorem dX0_michaelmasChanges_27 : St mX0_michaelmasChanges 27 (.iaload) 1 28 := ⟨by decide +kernel, rfl⟩
theorem dX0_michaelmasChanges_28 : St mX0_michaelmasChanges 28 (.aload_n 0) 1 29 := ⟨by decide +kernel, rfl⟩
theorem dX0_michaelmasChanges_29 : St mX0_michaelmasChanges 29 (.getfield 9) 3 32 := ⟨by decide +kernel, rfl⟩
theorem dX0_michaelmasChanges_32 : St mX0_michaelmasChanges 32 (.iload_n 3) 1 33 := ⟨by decide +kernel, rfl⟩
theorem dX0_michaelmasChanges_33 : St mX0_michaelmasChanges 33 (.iaload) 1 34 := ⟨by decide +kernel, rfl⟩
theorem dX0_michaelmasChanges_34 : St mX0_michaelmasChanges 34 (.iload_n 1) 1 35 := ⟨by decide +kernel, rfl⟩
theorem dX0_michaelmasChanges_35 : St mX0_michaelmasChanges 35 (.invokevirtual 50) 3 38 := ⟨by decide +kernel, rfl⟩
theorem dX0_michaelmasChanges_38 : St mX0_michaelmasChanges 38 (.iastore) 1 39 := ⟨by decide +kernel, rfl⟩
theorem dX0_michaelmasChanges_39 : St mX0_michaelmasChanges 39 (.aload_n 0) 1 40 := ⟨by decide +kernel, rfl⟩
theorem dX0_michaelmasChanges_40 : St mX0_michaelmasChanges 40 (.getfield 15) 3 43 := ⟨by decide +kernel, rfl⟩
theorem dX0_michaelmasChanges_43 : St mX0_michaelmasChanges 43 (.iload_n 3) 1 44 := ⟨by decide +kernel, rfl⟩
theorem dX0_michaelmasChanges_44 : St mX0_michaelmasChanges 44 (.iaload) 1 45 := ⟨by decide +kernel, rfl⟩
theorem dX0_michaelmasChanges_45 : St mX0_michaelmasChanges 45 (.invokestatic 54) 3 48 := ⟨by decide +kernel, rfl⟩
theorem dX0_michaelmasChanges_48 : St mX0_michaelmasChanges 48 (.istore 4) 2 50 := ⟨by decide +kernel, rfl⟩
theorem dX0_michaelmasChanges_50 : St mX0_michaelmasChanges 50 (.iload_n 2) 1 51 := ⟨by decide +kernel, rfl⟩
theorem dX0_michaelmasChanges_51 : St mX0_michaelmasChanges 51 (.ifCond .ne 14) 3 54 := ⟨by decide +kernel, rfl⟩
theorem dX0_michaelmasChanges_54 : St mX0_michaelmasChanges 54 (.iload 4) 2 56 := ⟨by decide +kernel, rfl⟩
theorem dX0_michaelmasChanges_56 : St mX0_michaelmasChanges 56 (.aload_n 0) 1 57 := ⟨by decide +kernel, rfl⟩
theorem dX0_michaelmasChanges_57 : St mX0_michaelmasChanges 57 (.getfield 9) 3 60 := ⟨by decide +kernel, rfl⟩
theorem dX0_michaelmasChanges_60 : St mX0_michaelmasChanges 60 (.iload_n 3) 1 61 := ⟨by decide +kernel, rfl⟩
theorem dX0_michaelmasChanges_61 : St mX0_michaelmasChanges 61 (.iaload) 1 62 := ⟨by decide +kernel, rfl⟩
theorem dX0_michaelmasChanges_62 : St mX0_michaelmasChanges 62 (.if_icmp .eq 7) 3 65 := ⟨by decide +kernel, rfl⟩
theorem dX0_michaelmasChanges_65 : St mX0_michaelmasChanges 65 (.iconst 1) 1 66 := ⟨by decide +kernel, rfl⟩
theorem dX0_michaelmasChanges_66 : St mX0_michaelmasChanges 66 (.goto 4) 3 69 := ⟨by decide +kernel, rfl⟩
theorem dX0_michaelmasChanges_69 : St mX0_michaelmasChanges 69 (.iconst 0) 1 70 := ⟨by decide +kernel, rfl⟩
theorem dX0_michaelmasChanges_70 : St mX0_michaelmasChanges 70 (.istore_n 2) 1 71 := ⟨by decide +kernel, rfl⟩
theorem dX0_michaelmasChanges_71 : St mX0_michaelmasChanges 71 (.aload_n 0) 1 72 := ⟨by decide +kernel, rfl⟩
theorem dX0_michaelmasChanges_72 : St mX0_michaelmasChanges 72 (.getfield 9) 3 75 := ⟨by decide +kernel, rfl⟩
theorem dX0_michaelmasChanges_75 : St mX0_michaelmasChanges 75 (.iload_n 3) 1 76 := ⟨by decide +kernel, rfl⟩
theorem dX0_michaelmasChanges_76 : St mX0_michaelmasChanges 76 (.iload 4) 2 78 := ⟨by decide +kernel, rfl⟩
theorem dX0_michaelmasChanges_78 : St mX0_michaelmasChanges 78 (.iastore) 1 79 := ⟨by decide +kernel, rfl⟩
theorem dX0_michaelmasChanges_79 : St mX0_michaelmasChanges 79 (.iinc 3 1) 3 82 := ⟨by decide +kernel, rfl⟩
theorem dX0_michaelmasChanges_82 : St mX0_michaelmasChanges 82 (.goto (-78)) 3 85 := ⟨by decide +kernel, rfl⟩
theorem dX0_michaelmasChanges_85 : St mX0_michaelmasChanges 85 (.iload_n 2) 1 86 := ⟨by decide +kernel, rfl⟩
theorem dX0_michaelmasChanges_86 : St mX0_michaelmasChanges 86 (.ireturn) 1 87 := ⟨by decide +kernel, rfl⟩
theorem dX0_coursesNext_0 : St mX0_coursesNext 0 (.aload_n 0) 1 1 := ⟨by decide +kernel, rfl⟩
theorem dX0_coursesNext_1 : St mX0_coursesNext 1 (.iload_n 1) 1 2 := ⟨by decide +kernel, rfl⟩
theorem dX0_coursesNext_2 : St mX0_coursesNext 2 (.iload_n 2) 1 3 := ⟨by decide +kernel, rfl⟩
theorem dX0_coursesNext_3 : St mX0_coursesNext 3 (.aload_n 0) 1 4 := ⟨by decide +kernel, rfl⟩
theorem dX0_coursesNext_4 : St mX0_coursesNext 4 (.getfield 24) 3 7 := ⟨by decide +kernel, rfl⟩
theorem dX0_coursesNext_7 : St mX0_coursesNext 7 (.getfield 38) 3 10 := ⟨by decide +kernel, rfl⟩
theorem dX0_coursesNext_10 : St mX0_coursesNext 10 (.getfield 45) 3 13 := ⟨by decide +kernel, rfl⟩
theorem dX0_coursesNext_13 : St mX0_coursesNext 13 (.iload_n 1) 1 14 := ⟨by decide +kernel, rfl⟩
theorem dX0_coursesNext_14 : St mX0_coursesNext 14 (.iaload) 1 15 := ⟨by decide +kernel, rfl⟩
theorem dX0_coursesNext_15 : St mX0_coursesNext 15 (.aload_n 0) 1 16 := ⟨by decide +kernel, rfl⟩
theorem dX0_coursesNext_16 : St mX0_coursesNext 16 (.getfield 24) 3 19 := ⟨by decide +kernel, rfl⟩
theorem dX0_coursesNext_19 : St mX0_coursesNext 19 (.invokevirtual 46) 3 22 := ⟨by decide +kernel, rfl⟩
theorem dX0_coursesNext_22 : St mX0_coursesNext 22 (.invokevirtual 50) 3 25 := ⟨by decide +kernel, rfl⟩
theorem dX0_coursesNext_25 : St mX0_coursesNext 25 (.invokestatic 54) 3 28 := ⟨by decide +kernel, rfl⟩
theorem dX0_coursesNext_28 : St mX0_coursesNext 28 (.ireturn) 1 29 := ⟨by decide +kernel, rfl⟩
theorem dX0_giftFor_0 : St mX0_giftFor 0 (.iconst 0) 1 1 := ⟨by decide +kernel, rfl⟩
theorem dX0_giftFor_1 : St mX0_giftFor 1 (.istore_n 3) 1 2 := ⟨by decide +kernel, rfl⟩
theorem dX0_giftFor_2 : St mX0_giftFor 2 (.iload_n 3) 1 3 := ⟨by decide +kernel, rfl⟩
theorem dX0_giftFor_3 : St mX0_giftFor 3 (.bipush 20) 2 5 := ⟨by decide +kernel, rfl⟩
theorem dX0_giftFor_5 : St mX0_giftFor 5 (.if_icmp .gt 39) 3 8 := ⟨by decide +kernel, rfl⟩
theorem dX0_giftFor_8 : St mX0_giftFor 8 (.aload_n 0) 1 9 := ⟨by decide +kernel, rfl⟩
theorem dX0_giftFor_9 : St mX0_giftFor 9 (.iload_n 1) 1 10 := ⟨by decide +kernel, rfl⟩
theorem dX0_giftFor_10 : St mX0_giftFor 10 (.aload_n 0) 1 11 := ⟨by decide +kernel, rfl⟩
theorem dX0_giftFor_11 : St mX0_giftFor 11 (.getfield 24) 3 14 := ⟨by decide +kernel, rfl⟩
theorem dX0_giftFor_14 : St mX0_giftFor 14 (.getfield 38) 3 17 := ⟨by decide +kernel, rfl⟩
theorem dX0_giftFor_17 : St mX0_giftFor 17 (.getfield 42) 3 20 := ⟨by decide +kernel, rfl⟩
theorem dX0_giftFor_20 : St mX0_giftFor 20 (.iload_n 1) 1 21 := ⟨by decide +kernel, rfl⟩
theorem dX0_giftFor_21 : St mX0_giftFor 21 (.iaload) 1 22 := ⟨by decide +kernel, rfl⟩
theorem dX0_giftFor_22 : St mX0_giftFor 22 (.iload_n 3) 1 23 := ⟨by decide +kernel, rfl⟩
theorem dX0_giftFor_23 : St mX0_giftFor 23 (.isub) 1 24 := ⟨by decide +kernel, rfl⟩
theorem dX0_giftFor_24 : St mX0_giftFor 24 (.invokestatic 34) 3 27 := ⟨by decide +kernel, rfl⟩
theorem dX0_giftFor_27 : St mX0_giftFor 27 (.invokevirtual 78) 3 30 := ⟨by decide +kernel, rfl⟩
theorem dX0_giftFor_30 : St mX0_giftFor 30 (.iload_n 2) 1 31 := ⟨by decide +kernel, rfl⟩
theorem dX0_giftFor_31 : St mX0_giftFor 31 (.if_icmp .gt 7) 3 34 := ⟨by decide +kernel, rfl⟩
theorem dX0_giftFor_34 : St mX0_giftFor 34 (.iload_n 3) 1 35 := ⟨by decide +kernel, rfl⟩
theorem dX0_giftFor_35 : St mX0_giftFor 35 (.iload_n 3) 1 36 := ⟨by decide +kernel, rfl⟩
theorem dX0_giftFor_36 : St mX0_giftFor 36 (.imul) 1 37 := ⟨by decide +kernel, rfl⟩
theorem dX0_giftFor_37 : St mX0_giftFor 37 (.ireturn) 1 38 := ⟨by decide +kernel, rfl⟩
theorem dX0_giftFor_38 : St mX0_giftFor 38 (.iinc 3 1) 3 41 := ⟨by decide +kernel, rfl⟩
theorem dX0_giftFor_41 : St mX0_giftFor 41 (.goto (-39)) 3 44 := ⟨by decide +kernel, rfl⟩
theorem dX0_giftFor_44 : St mX0_giftFor 44 (.bipush (-4)) 2 46 := ⟨by decide +kernel, rfl⟩
theorem dX0_giftFor_46 : St mX0_giftFor 46 (.ireturn) 1 47 := ⟨by decide +kernel, rfl⟩
theorem dX0_weighApologies_0 : St mX0_weighApologies 0 (.iconst 0) 1 1 := ⟨by decide +kernel, rfl⟩
theorem dX0_weighApologies_1 : St mX0_weighApologies 1 (.istore_n 1) 1 2 := ⟨by decide +kernel, rfl⟩
theorem dX0_weighApologies_2 : St mX0_weighApologies 2 (.iload_n 1) 1 3 := ⟨by decide +kernel, rfl⟩
theorem dX0_weighApologies_3 : St mX0_weighApologies 3 (.aload_n 0) 1 4 := ⟨by decide +kernel, rfl⟩
theorem dX0_weighApologies_4 : St mX0_weighApologies 4 (.getfield 24) 3 7 := ⟨by decide +kernel, rfl⟩
theorem dX0_weighApologies_7 : St mX0_weighApologies 7 (.invokevirtual 61) 3 10 := ⟨by decide +kernel, rfl⟩
theorem dX0_weighApologies_10 : St mX0_weighApologies 10 (.if_icmp .ge 49) 3 13 := ⟨by decide +kernel, rfl⟩
theorem dX0_weighApologies_13 : St mX0_weighApologies 13 (.aload_n 0) 1 14 := ⟨by decide +kernel, rfl⟩
theorem dX0_weighApologies_14 : St mX0_weighApologies 14 (.getfield 24) 3 17 := ⟨by decide +kernel, rfl⟩
theorem dX0_weighApologies_17 : St mX0_weighApologies 17 (.getfield 38) 3 20 := ⟨by decide +kernel, rfl⟩
theorem dX0_weighApologies_20 : St mX0_weighApologies 20 (.getfield 42) 3 23 := ⟨by decide +kernel, rfl⟩
theorem dX0_weighApologies_23 : St mX0_weighApologies 23 (.iload_n 1) 1 24 := ⟨by decide +kernel, rfl⟩
theorem dX0_weighApologies_24 : St mX0_weighApologies 24 (.iaload) 1 25 := ⟨by decide +kernel, rfl⟩
theorem dX0_weighApologies_25 : St mX0_weighApologies 25 (.istore_n 2) 1 26 := ⟨by decide +kernel, rfl⟩
theorem dX0_weighApologies_26 : St mX0_weighApologies 26 (.aload_n 0) 1 27 := ⟨by decide +kernel, rfl⟩
theorem dX0_weighApologies_27 : St mX0_weighApologies 27 (.getfield 18) 3 30 := ⟨by decide +kernel, rfl⟩
theorem dX0_weighApologies_30 : St mX0_weighApologies 30 (.iload_n 1) 1 31 := ⟨by decide +kernel, rfl⟩
theorem dX0_weighApologies_31 : St mX0_weighApologies 31 (.aload_n 0) 1 32 := ⟨by decide +kernel, rfl⟩
theorem dX0_weighApologies_32 : St mX0_weighApologies 32 (.iload_n 1) 1 33 := ⟨by decide +kernel, rfl⟩
theorem dX0_weighApologies_33 : St mX0_weighApologies 33 (.iload_n 2) 1 34 := ⟨by decide +kernel, rfl⟩
theorem dX0_weighApologies_34 : St mX0_weighApologies 34 (.invokevirtual 78) 3 37 := ⟨by decide +kernel, rfl⟩
theorem dX0_weighApologies_37 : St mX0_weighApologies 37 (.iastore) 1 38 := ⟨by decide +kernel, rfl⟩
theorem dX0_weighApologies_38 : St mX0_weighApologies 38 (.aload_n 0) 1 39 := ⟨by decide +kernel, rfl⟩
theorem dX0_weighApologies_39 : St mX0_weighApologies 39 (.getfield 21) 3 42 := ⟨by decide +kernel, rfl⟩
theorem dX0_weighApologies_42 : St mX0_weighApologies 42 (.iload_n 1) 1 43 := ⟨by decide +kernel, rfl⟩
theorem dX0_weighApologies_43 : St mX0_weighApologies 43 (.aload_n 0) 1 44 := ⟨by decide +kernel, rfl⟩
theorem dX0_weighApologies_44 : St mX0_weighApologies 44 (.iload_n 1) 1 45 := ⟨by decide +kernel, rfl⟩
theorem dX0_weighApologies_45 : St mX0_weighApologies 45 (.iload_n 2) 1 46 := ⟨by decide +kernel, rfl⟩
theorem dX0_weighApologies_46 : St mX0_weighApologies 46 (.invokestatic 81) 3 49 := ⟨by decide +kernel, rfl⟩
theorem dX0_weighApologies_49 : St mX0_weighApologies 49 (.invokevirtual 78) 3 52 := ⟨by decide +kernel, rfl⟩
theorem dX0_weighApologies_52 : St mX0_weighApologies 52 (.iastore) 1 53 := ⟨by decide +kernel, rfl⟩
theorem dX0_weighApologies_53 : St mX0_weighApologies 53 (.iinc 1 1) 3 56 := ⟨by decide +kernel, rfl⟩
theorem dX0_weighApologies_56 : St mX0_weighApologies 56 (.goto (-54)) 3 59 := ⟨by decide +kernel, rfl⟩
theorem dX0_weighApologies_59 : St mX0_weighApologies 59 (.return_) 1 60 := ⟨by decide +kernel, rfl⟩
theorem dX0_weighGossip_0 : St mX0_weighGossip 0 (.iconst 0) 1 1 := ⟨by decide +kernel, rfl⟩
theorem dX0_weighGossip_1 : St mX0_weighGossip 1 (.istore_n 2) 1 2 := ⟨by decide +kernel, rfl⟩
theorem dX0_weighGossip_2 : St mX0_weighGossip 2 (.iload_n 2) 1 3 := ⟨by decide +kernel, rfl⟩
theorem dX0_weighGossip_3 : St mX0_weighGossip 3 (.aload_n 0) 1 4 := ⟨by decide +kernel, rfl⟩
theorem dX0_weighGossip_4 : St mX0_weighGossip 4 (.getfield 24) 3 7 := ⟨by decide +kernel, rfl⟩
theorem dX0_weighGossip_7 : St mX0_weighGossip 7 (.invokevirtual 61) 3 10 := ⟨by decide +kernel, rfl⟩
theorem dX0_weighGossip_10 : St mX0_weighGossip 10 (.if_icmp .ge 51) 3 13 := ⟨by decide +kernel, rfl⟩
theorem dX0_weighGossip_13 : St mX0_weighGossip 13 (.aload_n 0) 1 14 := ⟨by decide +kernel, rfl⟩
theorem dX0_weighGossip_14 : St mX0_weighGossip 14 (.getfield 24) 3 17 := ⟨by decide +kernel, rfl⟩
theorem dX0_weighGossip_17 : St mX0_weighGossip 17 (.getfield 38) 3 20 := ⟨by decide +kernel, rfl⟩
theorem dX0_weighGossip_20 : St mX0_weighGossip 20 (.getfield 42) 3 23 := ⟨by decide +kernel, rfl⟩
theorem dX0_weighGossip_23 : St mX0_weighGossip 23 (.iload_n 2) 1 24 := ⟨by decide +kernel, rfl⟩
theorem dX0_weighGossip_24 : St mX0_weighGossip 24 (.iaload) 1 25 := ⟨by decide +kernel, rfl⟩
theorem dX0_weighGossip_25 : St mX0_weighGossip 25 (.istore_n 3) 1 26 := ⟨by decide +kernel, rfl⟩
theorem dX0_weighGossip_26 : St mX0_weighGossip 26 (.aload_n 0) 1 27 := ⟨by decide +kernel, rfl⟩
theorem dX0_weighGossip_27 : St mX0_weighGossip 27 (.getfield 18) 3 30 := ⟨by decide +kernel, rfl⟩
theorem dX0_weighGossip_30 : St mX0_weighGossip 30 (.iload_n 2) 1 31 := ⟨by decide +kernel, rfl⟩
theorem dX0_weighGossip_31 : St mX0_weighGossip 31 (.aload_n 0) 1 32 := ⟨by decide +kernel, rfl⟩
theorem dX0_weighGossip_32 : St mX0_weighGossip 32 (.iload_n 2) 1 33 := ⟨by decide +kernel, rfl⟩
theorem dX0_weighGossip_33 : St mX0_weighGossip 33 (.iload_n 3) 1 34 := ⟨by decide +kernel, rfl⟩
theorem dX0_weighGossip_34 : St mX0_weighGossip 34 (.invokevirtual 78) 3 37 := ⟨by decide +kernel, rfl⟩
theorem dX0_weighGossip_37 : St mX0_weighGossip 37 (.iastore) 1 38 := ⟨by decide +kernel, rfl⟩
theorem dX0_weighGossip_38 : St mX0_weighGossip 38 (.aload_n 0) 1 39 := ⟨by decide +kernel, rfl⟩
theorem dX0_weighGossip_39 : St mX0_weighGossip 39 (.getfield 21) 3 42 := ⟨by decide +kernel, rfl⟩
theorem dX0_weighGossip_42 : St mX0_weighGossip 42 (.iload_n 2) 1 43 := ⟨by decide +kernel, rfl⟩
theorem dX0_weighGossip_43 : St mX0_weighGossip 43 (.aload_n 0) 1 44 := ⟨by decide +kernel, rfl⟩
theorem dX0_weighGossip_44 : St mX0_weighGossip 44 (.iload_n 2) 1 45 := ⟨by decide +kernel, rfl⟩
theorem dX0_weighGossip_45 : St mX0_weighGossip 45 (.iload_n 3) 1 46 := ⟨by decide +kernel, rfl⟩
theorem dX0_weighGossip_46 : St mX0_weighGossip 46 (.iload_n 1) 1 47 := ⟨by decide +kernel, rfl⟩
theorem dX0_weighGossip_47 : St mX0_weighGossip 47 (.iadd) 1 48 := ⟨by decide +kernel, rfl⟩
theorem dX0_weighGossip_48 : St mX0_weighGossip 48 (.invokestatic 34) 3 51 := ⟨by decide +kernel, rfl⟩
theorem dX0_weighGossip_51 : St mX0_weighGossip 51 (.invokevirtual 78) 3 54 := ⟨by decide +kernel, rfl⟩
theorem dX0_weighGossip_54 : St mX0_weighGossip 54 (.iastore) 1 55 := ⟨by decide +kernel, rfl⟩
theorem dX0_weighGossip_55 : St mX0_weighGossip 55 (.iinc 2 1) 3 58 := ⟨by decide +kernel, rfl⟩
theorem dX0_weighGossip_58 : St mX0_weighGossip 58 (.goto (-56)) 3 61 := ⟨by decide +kernel, rfl⟩
theorem dX0_weighGossip_61 : St mX0_weighGossip 61 (.return_) 1 62 := ⟨by decide +kernel, rfl⟩
theorem dX0_coursesWith_0 : St mX0_coursesWith 0 (.iconst 0) 1 1 := ⟨by decide +kernel, rfl⟩
theorem dX0_coursesWith_1 : St mX0_coursesWith 1 (.istore_n 2) 1 2 := ⟨by decide +kernel, rfl⟩
theorem dX0_coursesWith_2 : St mX0_coursesWith 2 (.iconst 0) 1 3 := ⟨by decide +kernel, rfl⟩
theorem dX0_coursesWith_3 : St mX0_coursesWith 3 (.istore_n 3) 1 4 := ⟨by decide +kernel, rfl⟩
theorem dX0_coursesWith_4 : St mX0_coursesWith 4 (.iload_n 3) 1 5 := ⟨by decide +kernel, rfl⟩
theorem dX0_coursesWith_5 : St mX0_coursesWith 5 (.aload_n 0) 1 6 := ⟨by decide +kernel, rfl⟩
theorem dX0_coursesWith_6 : St mX0_coursesWith 6 (.getfield 24) 3 9 := ⟨by decide +kernel, rfl⟩
theorem dX0_coursesWith_9 : St mX0_coursesWith 9 (.invokevirtual 61) 3 12 := ⟨by decide +kernel, rfl⟩
theorem dX0_coursesWith_12 : St mX0_coursesWith 12 (.if_icmp .ge 36) 3 15 := ⟨by decide +kernel, rfl⟩
theorem dX0_coursesWith_15 : St mX0_coursesWith 15 (.iload_n 2) 1 16 := ⟨by decide +kernel, rfl⟩
theorem dX0_coursesWith_16 : St mX0_coursesWith 16 (.iload_n 1) 1 17 := ⟨by decide +kernel, rfl⟩
theorem dX0_coursesWith_17 : St mX0_coursesWith 17 (.iload_n 3) 1 18 := ⟨by decide +kernel, rfl⟩
theorem dX0_coursesWith_18 : St mX0_coursesWith 18 (.ishr) 1 19 := ⟨by decide +kernel, rfl⟩
theorem dX0_coursesWith_19 : St mX0_coursesWith 19 (.iconst 1) 1 20 := ⟨by decide +kernel, rfl⟩
theorem dX0_coursesWith_20 : St mX0_coursesWith 20 (.iand) 1 21 := ⟨by decide +kernel, rfl⟩
theorem dX0_coursesWith_21 : St mX0_coursesWith 21 (.iconst 1) 1 22 := ⟨by decide +kernel, rfl⟩
theorem dX0_coursesWith_22 : St mX0_coursesWith 22 (.if_icmp .ne 12) 3 25 := ⟨by decide +kernel, rfl⟩
theorem dX0_coursesWith_25 : St mX0_coursesWith 25 (.aload_n 0) 1 26 := ⟨by decide +kernel, rfl⟩
theorem dX0_coursesWith_26 : St mX0_coursesWith 26 (.getfield 21) 3 29 := ⟨by decide +kernel, rfl⟩
theorem dX0_coursesWith_29 : St mX0_coursesWith 29 (.iload_n 3) 1 30 := ⟨by decide +kernel, rfl⟩
theorem dX0_coursesWith_30 : St mX0_coursesWith 30 (.iaload) 1 31 := ⟨by decide +kernel, rfl⟩
theorem dX0_coursesWith_31 : St mX0_coursesWith 31 (.goto 9) 3 34 := ⟨by decide +kernel, rfl⟩
theorem dX0_coursesWith_34 : St mX0_coursesWith 34 (.aload_n 0) 1 35 := ⟨by decide +kernel, rfl⟩
theorem dX0_coursesWith_35 : St mX0_coursesWith 35 (.getfield 18) 3 38 := ⟨by decide +kernel, rfl⟩
theorem dX0_coursesWith_38 : St mX0_coursesWith 38 (.iload_n 3) 1 39 := ⟨by decide +kernel, rfl⟩
theorem dX0_coursesWith_39 : St mX0_coursesWith 39 (.iaload) 1 40 := ⟨by decide +kernel, rfl⟩
theorem dX0_coursesWith_40 : St mX0_coursesWith 40 (.iadd) 1 41 := ⟨by decide +kernel, rfl⟩
theorem dX0_coursesWith_41 : St mX0_coursesWith 41 (.istore_n 2) 1 42 := ⟨by decide +kernel, rfl⟩
theorem dX0_coursesWith_42 : St mX0_coursesWith 42 (.iinc 3 1) 3 45 := ⟨by decide +kernel, rfl⟩
theorem dX0_coursesWith_45 : St mX0_coursesWith 45 (.goto (-41)) 3 48 := ⟨by decide +kernel, rfl⟩
theorem dX0_coursesWith_48 : St mX0_coursesWith 48 (.iload_n 2) 1 49 := ⟨by decide +kernel, rfl⟩
theorem dX0_coursesWith_49 : St mX0_coursesWith 49 (.ireturn) 1 50 := ⟨by decide +kernel, rfl⟩
theorem dX0_bestApologies_0 : St mX0_bestApologies 0 (.aload_n 0) 1 1 := ⟨by decide +kernel, rfl⟩
theorem dX0_bestApologies_1 : St mX0_bestApologies 1 (.getfield 24) 3 4 := ⟨by decide +kernel, rfl⟩
theorem dX0_bestApologies_4 : St mX0_bestApologies 4 (.invokevirtual 84) 3 7 := ⟨by decide +kernel, rfl⟩
theorem dX0_bestApologies_7 : St mX0_bestApologies 7 (.istore_n 2) 1 8 := ⟨by decide +kernel, rfl⟩
theorem dX0_bestApologies_8 : St mX0_bestApologies 8 (.iconst 0) 1 9 := ⟨by decide +kernel, rfl⟩
theorem dX0_bestApologies_9 : St mX0_bestApologies 9 (.istore_n 3) 1 10 := ⟨by decide +kernel, rfl⟩
theorem dX0_bestApologies_10 : St mX0_bestApologies 10 (.aload_n 0) 1 11 := ⟨by decide +kernel, rfl⟩
theorem dX0_bestApologies_11 : St mX0_bestApologies 11 (.iconst 0) 1 12 := ⟨by decide +kernel, rfl⟩
theorem dX0_bestApologies_12 : St mX0_bestApologies 12 (.invokevirtual 87) 3 15 := ⟨by decide +kernel, rfl⟩
theorem dX0_bestApologies_15 : St mX0_bestApologies 15 (.istore 4) 2 17 := ⟨by decide +kernel, rfl⟩
theorem dX0_bestApologies_17 : St mX0_bestApologies 17 (.iconst 1) 1 18 := ⟨by decide +kernel, rfl⟩
theorem dX0_bestApologies_18 : St mX0_bestApologies 18 (.istore 5) 2 20 := ⟨by decide +kernel, rfl⟩
theorem dX0_bestApologies_20 : St mX0_bestApologies 20 (.iload 5) 2 22 := ⟨by decide +kernel, rfl⟩
theorem dX0_bestApologies_22 : St mX0_bestApologies 22 (.iconst 1) 1 23 := ⟨by decide +kernel, rfl⟩
theorem dX0_bestApologies_23 : St mX0_bestApologies 23 (.aload_n 0) 1 24 := ⟨by decide +kernel, rfl⟩
theorem dX0_bestApologies_24 : St mX0_bestApologies 24 (.getfield 24) 3 27 := ⟨by decide +kernel, rfl⟩
theorem dX0_bestApologies_27 : St mX0_bestApologies 27 (.invokevirtual 61) 3 30 := ⟨by decide +kernel, rfl⟩
theorem dX0_bestApologies_30 : St mX0_bestApologies 30 (.ishl) 1 31 := ⟨by decide +kernel, rfl⟩
theorem dX0_bestApologies_31 : St mX0_bestApologies 31 (.if_icmp .ge 71) 3 34 := ⟨by decide +kernel, rfl⟩
theorem dX0_bestApologies_34 : St mX0_bestApologies 34 (.iload 5) 2 36 := ⟨by decide +kernel, rfl⟩
theorem dX0_bestApologies_36 : St mX0_bestApologies 36 (.iload_n 2) 1 37 := ⟨by decide +kernel, rfl⟩
theorem dX0_bestApologies_37 : St mX0_bestApologies 37 (.iconst (-1)) 1 38 := ⟨by decide +kernel, rfl⟩
theorem dX0_bestApologies_38 : St mX0_bestApologies 38 (.ixor) 1 39 := ⟨by decide +kernel, rfl⟩
theorem dX0_bestApologies_39 : St mX0_bestApologies 39 (.iand) 1 40 := ⟨by decide +kernel, rfl⟩
theorem dX0_bestApologies_40 : St mX0_bestApologies 40 (.ifCond .ne 56) 3 43 := ⟨by decide +kernel, rfl⟩
theorem dX0_bestApologies_43 : St mX0_bestApologies 43 (.iload 5) 2 45 := ⟨by decide +kernel, rfl⟩
theorem dX0_bestApologies_45 : St mX0_bestApologies 45 (.invokestatic 90) 3 48 := ⟨by decide +kernel, rfl⟩
theorem dX0_bestApologies_48 : St mX0_bestApologies 48 (.iload_n 1) 1 49 := ⟨by decide +kernel, rfl⟩
theorem dX0_bestApologies_49 : St mX0_bestApologies 49 (.if_icmp .le 6) 3 52 := ⟨by decide +kernel, rfl⟩
theorem dX0_bestApologies_52 : St mX0_bestApologies 52 (.goto 44) 3 55 := ⟨by decide +kernel, rfl⟩
theorem dX0_bestApologies_55 : St mX0_bestApologies 55 (.aload_n 0) 1 56 := ⟨by decide +kernel, rfl⟩
theorem dX0_bestApologies_56 : St mX0_bestApologies 56 (.iload 5) 2 58 := ⟨by decide +kernel, rfl⟩
theorem dX0_bestApologies_58 : St mX0_bestApologies 58 (.invokevirtual 87) 3 61 := ⟨by decide +kernel, rfl⟩
theorem dX0_bestApologies_61 : St mX0_bestApologies 61 (.istore 6) 2 63 := ⟨by decide +kernel, rfl⟩
theorem dX0_bestApologies_63 : St mX0_bestApologies 63 (.iload 6) 2 65 := ⟨by decide +kernel, rfl⟩
theorem dX0_bestApologies_65 : St mX0_bestApologies 65 (.iload 4) 2 67 := ⟨by decide +kernel, rfl⟩
theorem dX0_bestApologies_67 : St mX0_bestApologies 67 (.if_icmp .lt 22) 3 70 := ⟨by decide +kernel, rfl⟩
theorem dX0_bestApologies_70 : St mX0_bestApologies 70 (.iload 6) 2 72 := ⟨by decide +kernel, rfl⟩
theorem dX0_bestApologies_72 : St mX0_bestApologies 72 (.iload 4) 2 74 := ⟨by decide +kernel, rfl⟩
theorem dX0_bestApologies_74 : St mX0_bestApologies 74 (.if_icmp .ne 22) 3 77 := ⟨by decide +kernel, rfl⟩
theorem dX0_bestApologies_77 : St mX0_bestApologies 77 (.iload 5) 2 79 := ⟨by decide +kernel, rfl⟩
theorem dX0_bestApologies_79 : St mX0_bestApologies 79 (.invokestatic 90) 3 82 := ⟨by decide +kernel, rfl⟩
theorem dX0_bestApologies_82 : St mX0_bestApologies 82 (.iload_n 3) 1 83 := ⟨by decide +kernel, rfl⟩
theorem dX0_bestApologies_83 : St mX0_bestApologies 83 (.invokestatic 90) 3 86 := ⟨by decide +kernel, rfl⟩
theorem dX0_bestApologies_86 : St mX0_bestApologies 86 (.if_icmp .ge 10) 3 89 := ⟨by decide +kernel, rfl⟩
theorem dX0_bestApologies_89 : St mX0_bestApologies 89 (.iload 5) 2 91 := ⟨by decide +kernel, rfl⟩
theorem dX0_bestApologies_91 : St mX0_bestApologies 91 (.istore_n 3) 1 92 := ⟨by decide +kernel, rfl⟩
theorem dX0_bestApologies_92 : St mX0_bestApologies 92 (.iload 6) 2 94 := ⟨by decide +kernel, rfl⟩
theorem dX0_bestApologies_94 : St mX0_bestApologies 94 (.istore 4) 2 96 := ⟨by decide +kernel, rfl⟩
theorem dX0_bestApologies_96 : St mX0_bestApologies 96 (.iinc 5 1) 3 99 := ⟨by decide +kernel, rfl⟩
theorem dX0_bestApologies_99 : St mX0_bestApologies 99 (.goto (-79)) 3 102 := ⟨by decide +kernel, rfl⟩
theorem dX0_bestApologies_102 : St mX0_bestApologies 102 (.iload_n 3) 1 103 := ⟨by decide +kernel, rfl⟩
theorem dX0_bestApologies_103 : St mX0_bestApologies 103 (.ireturn) 1 104 := ⟨by decide +kernel, rfl⟩
theorem dX0_bestGossip_0 : St mX0_bestGossip 0 (.bipush (-4)) 2 2 := ⟨by decide +kernel, rfl⟩
theorem dX0_bestGossip_2 : St mX0_bestGossip 2 (.istore_n 1) 1 3 := ⟨by decide +kernel, rfl⟩
theorem dX0_bestGossip_3 : St mX0_bestGossip 3 (.iconst (-1)) 1 4 := ⟨by decide +kernel, rfl⟩
theorem dX0_bestGossip_4 : St mX0_bestGossip 4 (.istore_n 2) 1 5 := ⟨by decide +kernel, rfl⟩
theorem dX0_bestGossip_5 : St mX0_bestGossip 5 (.iconst 0) 1 6 := ⟨by decide +kernel, rfl⟩
theorem dX0_bestGossip_6 : St mX0_bestGossip 6 (.istore_n 3) 1 7 := ⟨by decide +kernel, rfl⟩
theorem dX0_bestGossip_7 : St mX0_bestGossip 7 (.iload_n 3) 1 8 := ⟨by decide +kernel, rfl⟩
theorem dX0_bestGossip_8 : St mX0_bestGossip 8 (.aload_n 0) 1 9 := ⟨by decide +kernel, rfl⟩
theorem dX0_bestGossip_9 : St mX0_bestGossip 9 (.getfield 24) 3 12 := ⟨by decide +kernel, rfl⟩
theorem dX0_bestGossip_12 : St mX0_bestGossip 12 (.invokevirtual 61) 3 15 := ⟨by decide +kernel, rfl⟩
theorem dX0_bestGossip_15 : St mX0_bestGossip 15 (.if_icmp .ge 29) 3 18 := ⟨by decide +kernel, rfl⟩
theorem dX0_bestGossip_18 : St mX0_bestGossip 18 (.aload_n 0) 1 19 := ⟨by decide +kernel, rfl⟩
theorem dX0_bestGossip_19 : St mX0_bestGossip 19 (.iconst 1) 1 20 := ⟨by decide +kernel, rfl⟩
theorem dX0_bestGossip_20 : St mX0_bestGossip 20 (.iload_n 3) 1 21 := ⟨by decide +kernel, rfl⟩
theorem dX0_bestGossip_21 : St mX0_bestGossip 21 (.ishl) 1 22 := ⟨by decide +kernel, rfl⟩
theorem dX0_bestGossip_22 : St mX0_bestGossip 22 (.invokevirtual 87) 3 25 := ⟨by decide +kernel, rfl⟩
theorem dX0_bestGossip_25 : St mX0_bestGossip 25 (.istore 4) 2 27 := ⟨by decide +kernel, rfl⟩
theorem dX0_bestGossip_27 : St mX0_bestGossip 27 (.iload 4) 2 29 := ⟨by decide +kernel, rfl⟩
theorem dX0_bestGossip_29 : St mX0_bestGossip 29 (.iload_n 2) 1 30 := ⟨by decide +kernel, rfl⟩
theorem dX0_bestGossip_30 : St mX0_bestGossip 30 (.if_icmp .le 8) 3 33 := ⟨by decide +kernel, rfl⟩
theorem dX0_bestGossip_33 : St mX0_bestGossip 33 (.iload_n 3) 1 34 := ⟨by decide +kernel, rfl⟩
theorem dX0_bestGossip_34 : St mX0_bestGossip 34 (.istore_n 1) 1 35 := ⟨by decide +kernel, rfl⟩
theorem dX0_bestGossip_35 : St mX0_bestGossip 35 (.iload 4) 2 37 := ⟨by decide +kernel, rfl⟩
theorem dX0_bestGossip_37 : St mX0_bestGossip 37 (.istore_n 2) 1 38 := ⟨by decide +kernel, rfl⟩
theorem dX0_bestGossip_38 : St mX0_bestGossip 38 (.iinc 3 1) 3 41 := ⟨by decide +kernel, rfl⟩
theorem dX0_bestGossip_41 : St mX0_bestGossip 41 (.goto (-34)) 3 44 := ⟨by decide +kernel, rfl⟩
theorem dX0_bestGossip_44 : St mX0_bestGossip 44 (.iload_n 1) 1 45 := ⟨by decide +kernel, rfl⟩
theorem dX0_bestGossip_45 : St mX0_bestGossip 45 (.ireturn) 1 46 := ⟨by decide +kernel, rfl⟩
theorem dX0_chanceToStand_0 : St mX0_chanceToStand 0 (.ldc 95) 2 2 := ⟨by decide +kernel, rfl⟩
theorem dX0_chanceToStand_2 : St mX0_chanceToStand 2 (.istore_n 2) 1 3 := ⟨by decide +kernel, rfl⟩
theorem dX0_chanceToStand_3 : St mX0_chanceToStand 3 (.iconst 0) 1 4 := ⟨by decide +kernel, rfl⟩
theorem dX0_chanceToStand_4 : St mX0_chanceToStand 4 (.istore_n 3) 1 5 := ⟨by decide +kernel, rfl⟩
theorem dX0_chanceToStand_5 : St mX0_chanceToStand 5 (.iload_n 3) 1 6 := ⟨by decide +kernel, rfl⟩
theorem dX0_chanceToStand_6 : St mX0_chanceToStand 6 (.iload_n 1) 1 7 := ⟨by decide +kernel, rfl⟩
theorem dX0_chanceToStand_7 : St mX0_chanceToStand 7 (.if_icmp .ge 63) 3 10 := ⟨by decide +kernel, rfl⟩
theorem dX0_chanceToStand_10 : St mX0_chanceToStand 10 (.iconst 0) 1 11 := ⟨by decide +kernel, rfl⟩
theorem dX0_chanceToStand_11 : St mX0_chanceToStand 11 (.istore 4) 2 13 := ⟨by decide +kernel, rfl⟩
theorem dX0_chanceToStand_13 : St mX0_chanceToStand 13 (.iload 4) 2 15 := ⟨by decide +kernel, rfl⟩
theorem dX0_chanceToStand_15 : St mX0_chanceToStand 15 (.aload_n 0) 1 16 := ⟨by decide +kernel, rfl⟩
theorem dX0_chanceToStand_16 : St mX0_chanceToStand 16 (.getfield 24) 3 19 := ⟨by decide +kernel, rfl⟩
theorem dX0_chanceToStand_19 : St mX0_chanceToStand 19 (.invokevirtual 61) 3 22 := ⟨by decide +kernel, rfl⟩
theorem dX0_chanceToStand_22 : St mX0_chanceToStand 22 (.if_icmp .ge 42) 3 25 := ⟨by decide +kernel, rfl⟩
theorem dX0_chanceToStand_25 : St mX0_chanceToStand 25 (.aload_n 0) 1 26 := ⟨by decide +kernel, rfl⟩
theorem dX0_chanceToStand_26 : St mX0_chanceToStand 26 (.getfield 24) 3 29 := ⟨by decide +kernel, rfl⟩
theorem dX0_chanceToStand_29 : St mX0_chanceToStand 29 (.getfield 38) 3 32 := ⟨by decide +kernel, rfl⟩
theorem dX0_chanceToStand_32 : St mX0_chanceToStand 32 (.getfield 45) 3 35 := ⟨by decide +kernel, rfl⟩
theorem dX0_chanceToStand_35 : St mX0_chanceToStand 35 (.iload 4) 2 37 := ⟨by decide +kernel, rfl⟩
theorem dX0_chanceToStand_37 : St mX0_chanceToStand 37 (.iaload) 1 38 := ⟨by decide +kernel, rfl⟩
theorem dX0_chanceToStand_38 : St mX0_chanceToStand 38 (.istore 5) 2 40 := ⟨by decide +kernel, rfl⟩
theorem dX0_chanceToStand_40 : St mX0_chanceToStand 40 (.iload 5) 2 42 := ⟨by decide +kernel, rfl⟩
theorem dX0_chanceToStand_42 : St mX0_chanceToStand 42 (.bipush 12) 2 44 := ⟨by decide +kernel, rfl⟩
theorem dX0_chanceToStand_44 : St mX0_chanceToStand 44 (.if_icmp .lt 14) 3 47 := ⟨by decide +kernel, rfl⟩
theorem dX0_chanceToStand_47 : St mX0_chanceToStand 47 (.iload_n 2) 1 48 := ⟨by decide +kernel, rfl⟩
theorem dX0_chanceToStand_48 : St mX0_chanceToStand 48 (.bipush 100) 2 50 := ⟨by decide +kernel, rfl⟩
theorem dX0_chanceToStand_50 : St mX0_chanceToStand 50 (.iload 5) 2 52 := ⟨by decide +kernel, rfl⟩
theorem dX0_chanceToStand_52 : St mX0_chanceToStand 52 (.isub) 1 53 := ⟨by decide +kernel, rfl⟩
theorem dX0_chanceToStand_53 : St mX0_chanceToStand 53 (.imul) 1 54 := ⟨by decide +kernel, rfl⟩
theorem dX0_chanceToStand_54 : St mX0_chanceToStand 54 (.bipush 100) 2 56 := ⟨by decide +kernel, rfl⟩
theorem dX0_chanceToStand_56 : St mX0_chanceToStand 56 (.idiv) 1 57 := ⟨by decide +kernel, rfl⟩
theorem dX0_chanceToStand_57 : St mX0_chanceToStand 57 (.istore_n 2) 1 58 := ⟨by decide +kernel, rfl⟩
theorem dX0_chanceToStand_58 : St mX0_chanceToStand 58 (.iinc 4 1) 3 61 := ⟨by decide +kernel, rfl⟩
theorem dX0_chanceToStand_61 : St mX0_chanceToStand 61 (.goto (-48)) 3 64 := ⟨by decide +kernel, rfl⟩
theorem dX0_chanceToStand_64 : St mX0_chanceToStand 64 (.iinc 3 1) 3 67 := ⟨by decide +kernel, rfl⟩
theorem dX0_chanceToStand_67 : St mX0_chanceToStand 67 (.goto (-62)) 3 70 := ⟨by decide +kernel, rfl⟩
theorem dX0_chanceToStand_70 : St mX0_chanceToStand 70 (.iload_n 2) 1 71 := ⟨by decide +kernel, rfl⟩
theorem dX0_chanceToStand_71 : St mX0_chanceToStand 71 (.ireturn) 1 72 := ⟨by decide +kernel, rfl⟩
theorem dX0_howManyFit_0 : St mX0_howManyFit 0 (.iconst 0) 1 1 := ⟨by decide +kernel, rfl⟩
theorem dX0_howManyFit_1 : St mX0_howManyFit 1 (.istore 5) 2 3 := ⟨by decide +kernel, rfl⟩
theorem dX0_howManyFit_3 : St mX0_howManyFit 3 (.iconst 0) 1 4 := ⟨by decide +kernel, rfl⟩
theorem dX0_howManyFit_4 : St mX0_howManyFit 4 (.istore 6) 2 6 := ⟨by decide +kernel, rfl⟩
theorem dX0_howManyFit_6 : St mX0_howManyFit 6 (.iload 6) 2 8 := ⟨by decide +kernel, rfl⟩
theorem dX0_howManyFit_8 : St mX0_howManyFit 8 (.bipush 99) 2 10 := ⟨by decide +kernel, rfl⟩
theorem dX0_howManyFit_10 : St mX0_howManyFit 10 (.if_icmp .gt 26) 3 13 := ⟨by decide +kernel, rfl⟩
theorem dX0_howManyFit_13 : St mX0_howManyFit 13 (.aload_n 0) 1 14 := ⟨by decide +kernel, rfl⟩
theorem dX0_howManyFit_14 : St mX0_howManyFit 14 (.iload_n 1) 1 15 := ⟨by decide +kernel, rfl⟩
theorem dX0_howManyFit_15 : St mX0_howManyFit 15 (.iload 6) 2 17 := ⟨by decide +kernel, rfl⟩
theorem dX0_howManyFit_17 : St mX0_howManyFit 17 (.aload_n 2) 1 18 := ⟨by decide +kernel, rfl⟩
theorem dX0_howManyFit_18 : St mX0_howManyFit 18 (.iload_n 3) 1 19 := ⟨by decide +kernel, rfl⟩
theorem dX0_howManyFit_19 : St mX0_howManyFit 19 (.iload 4) 2 21 := ⟨by decide +kernel, rfl⟩
theorem dX0_howManyFit_21 : St mX0_howManyFit 21 (.invokevirtual 96) 3 24 := ⟨by decide +kernel, rfl⟩
theorem dX0_howManyFit_24 : St mX0_howManyFit 24 (.ifCond .eq 6) 3 27 := ⟨by decide +kernel, rfl⟩
theorem dX0_howManyFit_27 : St mX0_howManyFit 27 (.iinc 5 1) 3 30 := ⟨by decide +kernel, rfl⟩
theorem dX0_howManyFit_30 : St mX0_howManyFit 30 (.iinc 6 1) 3 33 := ⟨by decide +kernel, rfl⟩
theorem dX0_howManyFit_33 : St mX0_howManyFit 33 (.goto (-27)) 3 36 := ⟨by decide +kernel, rfl⟩
theorem dX0_howManyFit_36 : St mX0_howManyFit 36 (.iload 5) 2 38 := ⟨by decide +kernel, rfl⟩
theorem dX0_howManyFit_38 : St mX0_howManyFit 38 (.ireturn) 1 39 := ⟨by decide +kernel, rfl⟩
theorem dX0_leastThatFits_0 : St mX0_leastThatFits 0 (.iconst 0) 1 1 := ⟨by decide +kernel, rfl⟩
theorem dX0_leastThatFits_1 : St mX0_leastThatFits 1 (.istore 5) 2 3 := ⟨by decide +kernel, rfl⟩
theorem dX0_leastThatFits_3 : St mX0_leastThatFits 3 (.iload 5) 2 5 := ⟨by decide +kernel, rfl⟩
theorem dX0_leastThatFits_5 : St mX0_leastThatFits 5 (.bipush 99) 2 7 := ⟨by decide +kernel, rfl⟩
theorem dX0_leastThatFits_7 : St mX0_leastThatFits 7 (.if_icmp .gt 26) 3 10 := ⟨by decide +kernel, rfl⟩
theorem dX0_leastThatFits_10 : St mX0_leastThatFits 10 (.aload_n 0) 1 11 := ⟨by decide +kernel, rfl⟩
theorem dX0_leastThatFits_11 : St mX0_leastThatFits 11 (.iload_n 1) 1 12 := ⟨by decide +kernel, rfl⟩
theorem dX0_leastThatFits_12 : St mX0_leastThatFits 12 (.iload 5) 2 14 := ⟨by decide +kernel, rfl⟩
theorem dX0_leastThatFits_14 : St mX0_leastThatFits 14 (.aload_n 2) 1 15 := ⟨by decide +kernel, rfl⟩
theorem dX0_leastThatFits_15 : St mX0_leastThatFits 15 (.iload_n 3) 1 16 := ⟨by decide +kernel, rfl⟩
theorem dX0_leastThatFits_16 : St mX0_leastThatFits 16 (.iload 4) 2 18 := ⟨by decide +kernel, rfl⟩
theorem dX0_leastThatFits_18 : St mX0_leastThatFits 18 (.invokevirtual 96) 3 21 := ⟨by decide +kernel, rfl⟩
theorem dX0_leastThatFits_21 : St mX0_leastThatFits 21 (.ifCond .eq 6) 3 24 := ⟨by decide +kernel, rfl⟩
theorem dX0_leastThatFits_24 : St mX0_leastThatFits 24 (.iload 5) 2 26 := ⟨by decide +kernel, rfl⟩
theorem dX0_leastThatFits_26 : St mX0_leastThatFits 26 (.ireturn) 1 27 := ⟨by decide +kernel, rfl⟩
theorem dX0_leastThatFits_27 : St mX0_leastThatFits 27 (.iinc 5 1) 3 30 := ⟨by decide +kernel, rfl⟩
theorem dX0_leastThatFits_30 : St mX0_leastThatFits 30 (.goto (-27)) 3 33 := ⟨by decide +kernel, rfl⟩
theorem dX0_leastThatFits_33 : St mX0_leastThatFits 33 (.bipush (-4)) 2 35 := ⟨by decide +kernel, rfl⟩
theorem dX0_leastThatFits_35 : St mX0_leastThatFits 35 (.ireturn) 1 36 := ⟨by decide +kernel, rfl⟩
theorem dX0_fits_0 : St mX0_fits 0 (.iload_n 2) 1 1 := ⟨by decide +kernel, rfl⟩
theorem dX0_fits_1 : St mX0_fits 1 (.istore 6) 2 3 := ⟨by decide +kernel, rfl⟩
theorem dX0_fits_3 : St mX0_fits 3 (.aload_n 0) 1 4 := ⟨by decide +kernel, rfl⟩
theorem dX0_fits_4 : St mX0_fits 4 (.getfield 24) 3 7 := ⟨by decide +kernel, rfl⟩
theorem dX0_fits_7 : St mX0_fits 7 (.getfield 38) 3 10 := ⟨by decide +kernel, rfl⟩
theorem dX0_fits_10 : St mX0_fits 10 (.getfield 45) 3 13 := ⟨by decide +kernel, rfl⟩
theorem dX0_fits_13 : St mX0_fits 13 (.iload_n 1) 1 14 := ⟨by decide +kernel, rfl⟩
theorem dX0_fits_14 : St mX0_fits 14 (.iaload) 1 15 := ⟨by decide +kernel, rfl⟩
theorem dX0_fits_15 : St mX0_fits 15 (.istore 7) 2 17 := ⟨by decide +kernel, rfl⟩
theorem dX0_fits_17 : St mX0_fits 17 (.aload_n 0) 1 18 := ⟨by decide +kernel, rfl⟩
theorem dX0_fits_18 : St mX0_fits 18 (.getfield 24) 3 21 := ⟨by decide +kernel, rfl⟩
theorem dX0_fits_21 : St mX0_fits 21 (.invokevirtual 46) 3 24 := ⟨by decide +kernel, rfl⟩
theorem dX0_fits_24 : St mX0_fits 24 (.istore 8) 2 26 := ⟨by decide +kernel, rfl⟩
theorem dX0_fits_26 : St mX0_fits 26 (.iconst 0) 1 27 := ⟨by decide +kernel, rfl⟩
theorem dX0_fits_27 : St mX0_fits 27 (.istore 9) 2 29 := ⟨by decide +kernel, rfl⟩
theorem dX0_fits_29 : St mX0_fits 29 (.iload 9) 2 31 := ⟨by decide +kernel, rfl⟩
theorem dX0_fits_31 : St mX0_fits 31 (.iload 5) 2 33 := ⟨by decide +kernel, rfl⟩
theorem dX0_fits_33 : St mX0_fits 33 (.if_icmp .ge 57) 3 36 := ⟨by decide +kernel, rfl⟩
theorem dX0_fits_36 : St mX0_fits 36 (.aload_n 0) 1 37 := ⟨by decide +kernel, rfl⟩
theorem dX0_fits_37 : St mX0_fits 37 (.iload_n 1) 1 38 := ⟨by decide +kernel, rfl⟩
theorem dX0_fits_38 : St mX0_fits 38 (.iload 6) 2 40 := ⟨by decide +kernel, rfl⟩
theorem dX0_fits_40 : St mX0_fits 40 (.iload 7) 2 42 := ⟨by decide +kernel, rfl⟩
theorem dX0_fits_42 : St mX0_fits 42 (.iload 8) 2 44 := ⟨by decide +kernel, rfl⟩
theorem dX0_fits_44 : St mX0_fits 44 (.invokevirtual 50) 3 47 := ⟨by decide +kernel, rfl⟩
theorem dX0_fits_47 : St mX0_fits 47 (.istore 6) 2 49 := ⟨by decide +kernel, rfl⟩
theorem dX0_fits_49 : St mX0_fits 49 (.iload 6) 2 51 := ⟨by decide +kernel, rfl⟩
theorem dX0_fits_51 : St mX0_fits 51 (.invokestatic 54) 3 54 := ⟨by decide +kernel, rfl⟩
theorem dX0_fits_54 : St mX0_fits 54 (.istore 7) 2 56 := ⟨by decide +kernel, rfl⟩
theorem dX0_fits_56 : St mX0_fits 56 (.aload_n 3) 1 57 := ⟨by decide +kernel, rfl⟩
theorem dX0_fits_57 : St mX0_fits 57 (.getfield 100) 3 60 := ⟨by decide +kernel, rfl⟩
theorem dX0_fits_60 : St mX0_fits 60 (.iload 4) 2 62 := ⟨by decide +kernel, rfl⟩
theorem dX0_fits_62 : St mX0_fits 62 (.iload 9) 2 64 := ⟨by decide +kernel, rfl⟩
theorem dX0_fits_64 : St mX0_fits 64 (.iadd) 1 65 := ⟨by decide +kernel, rfl⟩
theorem dX0_fits_65 : St mX0_fits 65 (.laload) 1 66 := ⟨by decide +kernel, rfl⟩
theorem dX0_fits_66 : St mX0_fits 66 (.iload 7) 2 68 := ⟨by decide +kernel, rfl⟩
theorem dX0_fits_68 : St mX0_fits 68 (.i2l) 1 69 := ⟨by decide +kernel, rfl⟩
theorem dX0_fits_69 : St mX0_fits 69 (.lcmp) 1 70 := ⟨by decide +kernel, rfl⟩
theorem dX0_fits_70 : St mX0_fits 70 (.ifCond .eq 5) 3 73 := ⟨by decide +kernel, rfl⟩
theorem dX0_fits_73 : St mX0_fits 73 (.iconst 0) 1 74 := ⟨by decide +kernel, rfl⟩
theorem dX0_fits_74 : St mX0_fits 74 (.ireturn) 1 75 := ⟨by decide +kernel, rfl⟩
theorem dX0_fits_75 : St mX0_fits 75 (.aload_n 0) 1 76 := ⟨by decide +kernel, rfl⟩
theorem dX0_fits_76 : St mX0_fits 76 (.getfield 24) 3 79 := ⟨by decide +kernel, rfl⟩
theorem dX0_fits_79 : St mX0_fits 79 (.getfield 57) 3 82 := ⟨by decide +kernel, rfl⟩
theorem dX0_fits_82 : St mX0_fits 82 (.istore 8) 2 84 := ⟨by decide +kernel, rfl⟩
theorem dX0_fits_84 : St mX0_fits 84 (.iinc 9 1) 3 87 := ⟨by decide +kernel, rfl⟩
theorem dX0_fits_87 : St mX0_fits 87 (.goto (-58)) 3 90 := ⟨by decide +kernel, rfl⟩
theorem dX0_fits_90 : St mX0_fits 90 (.iconst 1) 1 91 := ⟨by decide +kernel, rfl⟩
theorem dX0_fits_91 : St mX0_fits 91 (.ireturn) 1 92 := ⟨by decide +kernel, rfl⟩
theorem dX1_init_0 : St mX1_init 0 (.aload_n 0) 1 1 := ⟨by decide +kernel, rfl⟩
theorem dX1_init_1 : St mX1_init 1 (.invokespecial 3) 3 4 := ⟨by decide +kernel, rfl⟩
theorem dX1_init_4 : St mX1_init 4 (.aload_n 0) 1 5 := ⟨by decide +kernel, rfl⟩
theorem dX1_init_5 : St mX1_init 5 (.bipush 8) 2 7 := ⟨by decide +kernel, rfl⟩
theorem dX1_init_7 : St mX1_init 7 (.anewarray 9) 3 10 := ⟨by decide +kernel, rfl⟩
theorem dX1_init_10 : St mX1_init 10 (.putfield 11) 3 13 := ⟨by decide +kernel, rfl⟩
theorem dX1_init_13 : St mX1_init 13 (.aload_n 0) 1 14 := ⟨by decide +kernel, rfl⟩
theorem dX1_init_14 : St mX1_init 14 (.iconst 0) 1 15 := ⟨by decide +kernel, rfl⟩
theorem dX1_init_15 : St mX1_init 15 (.putfield 17) 3 18 := ⟨by decide +kernel, rfl⟩
theorem dX1_init_18 : St mX1_init 18 (.aload_n 0) 1 19 := ⟨by decide +kernel, rfl⟩
theorem dX1_init_19 : St mX1_init 19 (.iconst 0) 1 20 := ⟨by decide +kernel, rfl⟩
theorem dX1_init_20 : St mX1_init 20 (.putfield 21) 3 23 := ⟨by decide +kernel, rfl⟩
theorem dX1_init_23 : St mX1_init 23 (.iconst 0) 1 24 := ⟨by decide +kernel, rfl⟩
theorem dX1_init_24 : St mX1_init 24 (.istore_n 1) 1 25 := ⟨by decide +kernel, rfl⟩
theorem dX1_init_25 : St mX1_init 25 (.iload_n 1) 1 26 := ⟨by decide +kernel, rfl⟩
theorem dX1_init_26 : St mX1_init 26 (.bipush 8) 2 28 := ⟨by decide +kernel, rfl⟩
theorem dX1_init_28 : St mX1_init 28 (.if_icmp .ge 22) 3 31 := ⟨by decide +kernel, rfl⟩
theorem dX1_init_31 : St mX1_init 31 (.aload_n 0) 1 32 := ⟨by decide +kernel, rfl⟩
theorem dX1_init_32 : St mX1_init 32 (.getfield 11) 3 35 := ⟨by decide +kernel, rfl⟩
theorem dX1_init_35 : St mX1_init 35 (.iload_n 1) 1 36 := ⟨by decide +kernel, rfl⟩
theorem dX1_init_36 : St mX1_init 36 (.new 9) 3 39 := ⟨by decide +kernel, rfl⟩
theorem dX1_init_39 : St mX1_init 39 (.dup) 1 40 := ⟨by decide +kernel, rfl⟩
theorem dX1_init_40 : St mX1_init 40 (.invokespecial 24) 3 43 := ⟨by decide +kernel, rfl⟩
theorem dX1_init_43 : St mX1_init 43 (.aastore) 1 44 := ⟨by decide +kernel, rfl⟩
theorem dX1_init_44 : St mX1_init 44 (.iinc 1 1) 3 47 := ⟨by decide +kernel, rfl⟩
theorem dX1_init_47 : St mX1_init 47 (.goto (-22)) 3 50 := ⟨by decide +kernel, rfl⟩
theorem dX1_init_50 : St mX1_init 50 (.return_) 1 51 := ⟨by decide +kernel, rfl⟩
theorem dX1_become_0 : St mX1_become 0 (.iconst 0) 1 1 := ⟨by decide +kernel, rfl⟩
theorem dX1_become_1 : St mX1_become 1 (.istore_n 2) 1 2 := ⟨by decide +kernel, rfl⟩
theorem dX1_become_2 : St mX1_become 2 (.iload_n 2) 1 3 := ⟨by decide +kernel, rfl⟩
theorem dX1_become_3 : St mX1_become 3 (.bipush 8) 2 5 := ⟨by decide +kernel, rfl⟩
theorem dX1_become_5 : St mX1_become 5 (.if_icmp .ge 24) 3 8 := ⟨by decide +kernel, rfl⟩
theorem dX1_become_8 : St mX1_become 8 (.aload_n 0) 1 9 := ⟨by decide +kernel, rfl⟩
theorem dX1_become_9 : St mX1_become 9 (.getfield 11) 3 12 := ⟨by decide +kernel, rfl⟩
theorem dX1_become_12 : St mX1_become 12 (.iload_n 2) 1 13 := ⟨by decide +kernel, rfl⟩
theorem dX1_become_13 : St mX1_become 13 (.aaload) 1 14 := ⟨by decide +kernel, rfl⟩
theorem dX1_become_14 : St mX1_become 14 (.aload_n 1) 1 15 := ⟨by decide +kernel, rfl⟩
theorem dX1_become_15 : St mX1_become 15 (.getfield 11) 3 18 := ⟨by decide +kernel, rfl⟩
theorem dX1_become_18 : St mX1_become 18 (.iload_n 2) 1 19 := ⟨by decide +kernel, rfl⟩
theorem dX1_become_19 : St mX1_become 19 (.aaload) 1 20 := ⟨by decide +kernel, rfl⟩
theorem dX1_become_20 : St mX1_become 20 (.invokevirtual 25) 3 23 := ⟨by decide +kernel, rfl⟩
theorem dX1_become_23 : St mX1_become 23 (.iinc 2 1) 3 26 := ⟨by decide +kernel, rfl⟩
theorem dX1_become_26 : St mX1_become 26 (.goto (-24)) 3 29 := ⟨by decide +kernel, rfl⟩
theorem dX1_become_29 : St mX1_become 29 (.aload_n 0) 1 30 := ⟨by decide +kernel, rfl⟩
theorem dX1_become_30 : St mX1_become 30 (.aload_n 1) 1 31 := ⟨by decide +kernel, rfl⟩
theorem dX1_become_31 : St mX1_become 31 (.getfield 17) 3 34 := ⟨by decide +kernel, rfl⟩
theorem dX1_become_34 : St mX1_become 34 (.putfield 17) 3 37 := ⟨by decide +kernel, rfl⟩
theorem dX1_become_37 : St mX1_become 37 (.aload_n 0) 1 38 := ⟨by decide +kernel, rfl⟩
theorem dX1_become_38 : St mX1_become 38 (.aload_n 1) 1 39 := ⟨by decide +kernel, rfl⟩
theorem dX1_become_39 : St mX1_become 39 (.getfield 21) 3 42 := ⟨by decide +kernel, rfl⟩
theorem dX1_become_42 : St mX1_become 42 (.putfield 21) 3 45 := ⟨by decide +kernel, rfl⟩
theorem dX1_become_45 : St mX1_become 45 (.return_) 1 46 := ⟨by decide +kernel, rfl⟩
theorem dX1_forget_0 : St mX1_forget 0 (.aload_n 0) 1 1 := ⟨by decide +kernel, rfl⟩
theorem dX1_forget_1 : St mX1_forget 1 (.iconst 0) 1 2 := ⟨by decide +kernel, rfl⟩
theorem dX1_forget_2 : St mX1_forget 2 (.putfield 17) 3 5 := ⟨by decide +kernel, rfl⟩
theorem dX1_forget_5 : St mX1_forget 5 (.aload_n 0) 1 6 := ⟨by decide +kernel, rfl⟩
theorem dX1_forget_6 : St mX1_forget 6 (.iconst 0) 1 7 := ⟨by decide +kernel, rfl⟩
theorem dX1_forget_7 : St mX1_forget 7 (.putfield 21) 3 10 := ⟨by decide +kernel, rfl⟩
theorem dX1_forget_10 : St mX1_forget 10 (.return_) 1 11 := ⟨by decide +kernel, rfl⟩
theorem dX1_add_0 : St mX1_add 0 (.aload_n 0) 1 1 := ⟨by decide +kernel, rfl⟩
theorem dX1_add_1 : St mX1_add 1 (.getfield 11) 3 4 := ⟨by decide +kernel, rfl⟩
theorem dX1_add_4 : St mX1_add 4 (.aload_n 0) 1 5 := ⟨by decide +kernel, rfl⟩
theorem dX1_add_5 : St mX1_add 5 (.getfield 17) 3 8 := ⟨by decide +kernel, rfl⟩
theorem dX1_add_8 : St mX1_add 8 (.aload_n 0) 1 9 := ⟨by decide +kernel, rfl⟩
theorem dX1_add_9 : St mX1_add 9 (.getfield 21) 3 12 := ⟨by decide +kernel, rfl⟩
theorem dX1_add_12 : St mX1_add 12 (.iadd) 1 13 := ⟨by decide +kernel, rfl⟩
theorem dX1_add_13 : St mX1_add 13 (.bipush 8) 2 15 := ⟨by decide +kernel, rfl⟩
theorem dX1_add_15 : St mX1_add 15 (.irem) 1 16 := ⟨by decide +kernel, rfl⟩
theorem dX1_add_16 : St mX1_add 16 (.aaload) 1 17 := ⟨by decide +kernel, rfl⟩
theorem dX1_add_17 : St mX1_add 17 (.aload_n 1) 1 18 := ⟨by decide +kernel, rfl⟩
theorem dX1_add_18 : St mX1_add 18 (.invokevirtual 25) 3 21 := ⟨by decide +kernel, rfl⟩
theorem dX1_add_21 : St mX1_add 21 (.aload_n 0) 1 22 := ⟨by decide +kernel, rfl⟩
theorem dX1_add_22 : St mX1_add 22 (.getfield 21) 3 25 := ⟨by decide +kernel, rfl⟩
theorem dX1_add_25 : St mX1_add 25 (.bipush 8) 2 27 := ⟨by decide +kernel, rfl⟩
theorem dX1_add_27 : St mX1_add 27 (.if_icmp .ge 16) 3 30 := ⟨by decide +kernel, rfl⟩
theorem dX1_add_30 : St mX1_add 30 (.aload_n 0) 1 31 := ⟨by decide +kernel, rfl⟩
theorem dX1_add_31 : St mX1_add 31 (.dup) 1 32 := ⟨by decide +kernel, rfl⟩
theorem dX1_add_32 : St mX1_add 32 (.getfield 21) 3 35 := ⟨by decide +kernel, rfl⟩
theorem dX1_add_35 : St mX1_add 35 (.iconst 1) 1 36 := ⟨by decide +kernel, rfl⟩
theorem dX1_add_36 : St mX1_add 36 (.iadd) 1 37 := ⟨by decide +kernel, rfl⟩
theorem dX1_add_37 : St mX1_add 37 (.putfield 21) 3 40 := ⟨by decide +kernel, rfl⟩
theorem dX1_add_40 : St mX1_add 40 (.goto 16) 3 43 := ⟨by decide +kernel, rfl⟩
theorem dX1_add_43 : St mX1_add 43 (.aload_n 0) 1 44 := ⟨by decide +kernel, rfl⟩
theorem dX1_add_44 : St mX1_add 44 (.aload_n 0) 1 45 := ⟨by decide +kernel, rfl⟩
theorem dX1_add_45 : St mX1_add 45 (.getfield 17) 3 48 := ⟨by decide +kernel, rfl⟩
theorem dX1_add_48 : St mX1_add 48 (.iconst 1) 1 49 := ⟨by decide +kernel, rfl⟩
theorem dX1_add_49 : St mX1_add 49 (.iadd) 1 50 := ⟨by decide +kernel, rfl⟩
theorem dX1_add_50 : St mX1_add 50 (.bipush 8) 2 52 := ⟨by decide +kernel, rfl⟩
theorem dX1_add_52 : St mX1_add 52 (.irem) 1 53 := ⟨by decide +kernel, rfl⟩
theorem dX1_add_53 : St mX1_add 53 (.putfield 17) 3 56 := ⟨by decide +kernel, rfl⟩
theorem dX1_add_56 : St mX1_add 56 (.return_) 1 57 := ⟨by decide +kernel, rfl⟩
theorem dX1_giveBack_0 : St mX1_giveBack 0 (.aload_n 0) 1 1 := ⟨by decide +kernel, rfl⟩
theorem dX1_giveBack_1 : St mX1_giveBack 1 (.dup) 1 2 := ⟨by decide +kernel, rfl⟩
theorem dX1_giveBack_2 : St mX1_giveBack 2 (.getfield 21) 3 5 := ⟨by decide +kernel, rfl⟩
theorem dX1_giveBack_5 : St mX1_giveBack 5 (.iconst 1) 1 6 := ⟨by decide +kernel, rfl⟩
theorem dX1_giveBack_6 : St mX1_giveBack 6 (.isub) 1 7 := ⟨by decide +kernel, rfl⟩
theorem dX1_giveBack_7 : St mX1_giveBack 7 (.putfield 21) 3 10 := ⟨by decide +kernel, rfl⟩
theorem dX1_giveBack_10 : St mX1_giveBack 10 (.aload_n 1) 1 11 := ⟨by decide +kernel, rfl⟩
theorem dX1_giveBack_11 : St mX1_giveBack 11 (.aload_n 0) 1 12 := ⟨by decide +kernel, rfl⟩
theorem dX1_giveBack_12 : St mX1_giveBack 12 (.getfield 11) 3 15 := ⟨by decide +kernel, rfl⟩
theorem dX1_giveBack_15 : St mX1_giveBack 15 (.aload_n 0) 1 16 := ⟨by decide +kernel, rfl⟩
theorem dX1_giveBack_16 : St mX1_giveBack 16 (.getfield 17) 3 19 := ⟨by decide +kernel, rfl⟩
theorem dX1_giveBack_19 : St mX1_giveBack 19 (.aload_n 0) 1 20 := ⟨by decide +kernel, rfl⟩
theorem dX1_giveBack_20 : St mX1_giveBack 20 (.getfield 21) 3 23 := ⟨by decide +kernel, rfl⟩
theorem dX1_giveBack_23 : St mX1_giveBack 23 (.iadd) 1 24 := ⟨by decide +kernel, rfl⟩
theorem dX1_giveBack_24 : St mX1_giveBack 24 (.bipush 8) 2 26 := ⟨by decide +kernel, rfl⟩
theorem dX1_giveBack_26 : St mX1_giveBack 26 (.irem) 1 27 := ⟨by decide +kernel, rfl⟩
theorem dX1_giveBack_27 : St mX1_giveBack 27 (.aaload) 1 28 := ⟨by decide +kernel, rfl⟩
theorem dX1_giveBack_28 : St mX1_giveBack 28 (.invokevirtual 25) 3 31 := ⟨by decide +kernel, rfl⟩
theorem dX1_giveBack_31 : St mX1_giveBack 31 (.aload_n 0) 1 32 := ⟨by decide +kernel, rfl⟩
theorem dX1_giveBack_32 : St mX1_giveBack 32 (.getfield 21) 3 35 := ⟨by decide +kernel, rfl⟩
theorem dX1_giveBack_35 : St mX1_giveBack 35 (.ireturn) 1 36 := ⟨by decide +kernel, rfl⟩
theorem dX2_init_0 : St mX2_init 0 (.aload_n 0) 1 1 := ⟨by decide +kernel, rfl⟩
theorem dX2_init_1 : St mX2_init 1 (.invokespecial 3) 3 4 := ⟨by decide +kernel, rfl⟩
theorem dX2_init_4 : St mX2_init 4 (.aload_n 0) 1 5 := ⟨by decide +kernel, rfl⟩
theorem dX2_init_5 : St mX2_init 5 (.bipush 24) 2 7 := ⟨by decide +kernel, rfl⟩
theorem dX2_init_7 : St mX2_init 7 (.newarray .long) 2 9 := ⟨by decide +kernel, rfl⟩
theorem dX2_init_9 : St mX2_init 9 (.putfield 9) 3 12 := ⟨by decide +kernel, rfl⟩
theorem dX2_init_12 : St mX2_init 12 (.aload_n 0) 1 13 := ⟨by decide +kernel, rfl⟩
theorem dX2_init_13 : St mX2_init 13 (.iconst 0) 1 14 := ⟨by decide +kernel, rfl⟩
theorem dX2_init_14 : St mX2_init 14 (.putfield 15) 3 17 := ⟨by decide +kernel, rfl⟩
theorem dX2_init_17 : St mX2_init 17 (.aload_n 0) 1 18 := ⟨by decide +kernel, rfl⟩
theorem dX2_init_18 : St mX2_init 18 (.iconst 0) 1 19 := ⟨by decide +kernel, rfl⟩
theorem dX2_init_19 : St mX2_init 19 (.putfield 19) 3 22 := ⟨by decide +kernel, rfl⟩
theorem dX2_init_22 : St mX2_init 22 (.aload_n 0) 1 23 := ⟨by decide +kernel, rfl⟩
theorem dX2_init_23 : St mX2_init 23 (.iconst 0) 1 24 := ⟨by decide +kernel, rfl⟩
theorem dX2_init_24 : St mX2_init 24 (.putfield 23) 3 27 := ⟨by decide +kernel, rfl⟩
theorem dX2_init_27 : St mX2_init 27 (.return_) 1 28 := ⟨by decide +kernel, rfl⟩
theorem dX2_renew_0 : St mX2_renew 0 (.aload_n 0) 1 1 := ⟨by decide +kernel, rfl⟩
theorem dX2_renew_1 : St mX2_renew 1 (.iconst 1) 1 2 := ⟨by decide +kernel, rfl⟩
theorem dX2_renew_2 : St mX2_renew 2 (.putfield 15) 3 5 := ⟨by decide +kernel, rfl⟩
theorem dX2_renew_5 : St mX2_renew 5 (.aload_n 0) 1 6 := ⟨by decide +kernel, rfl⟩
theorem dX2_renew_6 : St mX2_renew 6 (.iload_n 1) 1 7 := ⟨by decide +kernel, rfl⟩
theorem dX2_renew_7 : St mX2_renew 7 (.putfield 19) 3 10 := ⟨by decide +kernel, rfl⟩
theorem dX2_renew_10 : St mX2_renew 10 (.aload_n 0) 1 11 := ⟨by decide +kernel, rfl⟩
theorem dX2_renew_11 : St mX2_renew 11 (.iload_n 2) 1 12 := ⟨by decide +kernel, rfl⟩
theorem dX2_renew_12 : St mX2_renew 12 (.putfield 23) 3 15 := ⟨by decide +kernel, rfl⟩
theorem dX2_renew_15 : St mX2_renew 15 (.iconst 0) 1 16 := ⟨by decide +kernel, rfl⟩
theorem dX2_renew_16 : St mX2_renew 16 (.istore_n 3) 1 17 := ⟨by decide +kernel, rfl⟩
theorem dX2_renew_17 : St mX2_renew 17 (.iload_n 3) 1 18 := ⟨by decide +kernel, rfl⟩
theorem dX2_renew_18 : St mX2_renew 18 (.bipush 24) 2 20 := ⟨by decide +kernel, rfl⟩
theorem dX2_renew_20 : St mX2_renew 20 (.if_icmp .ge 16) 3 23 := ⟨by decide +kernel, rfl⟩
theorem dX2_renew_23 : St mX2_renew 23 (.aload_n 0) 1 24 := ⟨by decide +kernel, rfl⟩
theorem dX2_renew_24 : St mX2_renew 24 (.getfield 9) 3 27 := ⟨by decide +kernel, rfl⟩
theorem dX2_renew_27 : St mX2_renew 27 (.iload_n 3) 1 28 := ⟨by decide +kernel, rfl⟩
theorem dX2_renew_28 : St mX2_renew 28 (.lconst 0) 1 29 := ⟨by decide +kernel, rfl⟩
theorem dX2_renew_29 : St mX2_renew 29 (.lastore) 1 30 := ⟨by decide +kernel, rfl⟩
theorem dX2_renew_30 : St mX2_renew 30 (.iinc 3 1) 3 33 := ⟨by decide +kernel, rfl⟩
theorem dX2_renew_33 : St mX2_renew 33 (.goto (-16)) 3 36 := ⟨by decide +kernel, rfl⟩
theorem dX2_renew_36 : St mX2_renew 36 (.return_) 1 37 := ⟨by decide +kernel, rfl⟩
theorem dX2_has_0 : St mX2_has 0 (.iload_n 1) 1 1 := ⟨by decide +kernel, rfl⟩
theorem dX2_has_1 : St mX2_has 1 (.ifCond .lt 21) 3 4 := ⟨by decide +kernel, rfl⟩
theorem dX2_has_4 : St mX2_has 4 (.iload_n 2) 1 5 := ⟨by decide +kernel, rfl⟩
theorem dX2_has_5 : St mX2_has 5 (.ifCond .lt 17) 3 8 := ⟨by decide +kernel, rfl⟩
theorem dX2_has_8 : St mX2_has 8 (.iload_n 1) 1 9 := ⟨by decide +kernel, rfl⟩
theorem dX2_has_9 : St mX2_has 9 (.aload_n 0) 1 10 := ⟨by decide +kernel, rfl⟩
theorem dX2_has_10 : St mX2_has 10 (.getfield 23) 3 13 := ⟨by decide +kernel, rfl⟩
theorem dX2_has_13 : St mX2_has 13 (.iload_n 2) 1 14 := ⟨by decide +kernel, rfl⟩
theorem dX2_has_14 : St mX2_has 14 (.isub) 1 15 := ⟨by decide +kernel, rfl⟩
theorem dX2_has_15 : St mX2_has 15 (.if_icmp .gt 7) 3 18 := ⟨by decide +kernel, rfl⟩
theorem dX2_has_18 : St mX2_has 18 (.iconst 1) 1 19 := ⟨by decide +kernel, rfl⟩
theorem dX2_has_19 : St mX2_has 19 (.goto 4) 3 22 := ⟨by decide +kernel, rfl⟩
theorem dX2_has_22 : St mX2_has 22 (.iconst 0) 1 23 := ⟨by decide +kernel, rfl⟩
theorem dX2_has_23 : St mX2_has 23 (.ireturn) 1 24 := ⟨by decide +kernel, rfl⟩
theorem dX2_refusal_0 : St mX2_refusal 0 (.aload_n 0) 1 1 := ⟨by decide +kernel, rfl⟩
theorem dX2_refusal_1 : St mX2_refusal 1 (.getfield 15) 3 4 := ⟨by decide +kernel, rfl⟩
theorem dX2_refusal_4 : St mX2_refusal 4 (.ifCond .ne 6) 3 7 := ⟨by decide +kernel, rfl⟩
theorem dX2_refusal_7 : St mX2_refusal 7 (.bipush (-11)) 2 9 := ⟨by decide +kernel, rfl⟩
theorem dX2_refusal_9 : St mX2_refusal 9 (.ireturn) 1 10 := ⟨by decide +kernel, rfl⟩
theorem dX2_refusal_10 : St mX2_refusal 10 (.aload_n 0) 1 11 := ⟨by decide +kernel, rfl⟩
theorem dX2_refusal_11 : St mX2_refusal 11 (.getfield 19) 3 14 := ⟨by decide +kernel, rfl⟩
theorem dX2_refusal_14 : St mX2_refusal 14 (.iload_n 1) 1 15 := ⟨by decide +kernel, rfl⟩
theorem dX2_refusal_15 : St mX2_refusal 15 (.if_icmp .eq 6) 3 18 := ⟨by decide +kernel, rfl⟩
theorem dX2_refusal_18 : St mX2_refusal 18 (.bipush (-12)) 2 20 := ⟨by decide +kernel, rfl⟩
theorem dX2_refusal_20 : St mX2_refusal 20 (.ireturn) 1 21 := ⟨by decide +kernel, rfl⟩
theorem dX2_refusal_21 : St mX2_refusal 21 (.aload_n 0) 1 22 := ⟨by decide +kernel, rfl⟩
theorem dX2_refusal_22 : St mX2_refusal 22 (.iload_n 2) 1 23 := ⟨by decide +kernel, rfl⟩
theorem dX2_refusal_23 : St mX2_refusal 23 (.iload_n 3) 1 24 := ⟨by decide +kernel, rfl⟩
theorem dX2_refusal_24 : St mX2_refusal 24 (.invokevirtual 26) 3 27 := ⟨by decide +kernel, rfl⟩
theorem dX2_refusal_27 : St mX2_refusal 27 (.ifCond .eq 7) 3 30 := ⟨by decide +kernel, rfl⟩
theorem dX2_refusal_30 : St mX2_refusal 30 (.iconst 0) 1 31 := ⟨by decide +kernel, rfl⟩
theorem dX2_refusal_31 : St mX2_refusal 31 (.goto 5) 3 34 := ⟨by decide +kernel, rfl⟩
theorem dX2_refusal_34 : St mX2_refusal 34 (.bipush (-13)) 2 36 := ⟨by decide +kernel, rfl⟩
theorem dX2_refusal_36 : St mX2_refusal 36 (.ireturn) 1 37 := ⟨by decide +kernel, rfl⟩
theorem dX2_put_0 : St mX2_put 0 (.aload_n 0) 1 1 := ⟨by decide +kernel, rfl⟩
theorem dX2_put_1 : St mX2_put 1 (.getfield 19) 3 4 := ⟨by decide +kernel, rfl⟩
theorem dX2_put_4 : St mX2_put 4 (.tableswitch 66 0 2 #[28, 41, 54]) 28 32 := ⟨by decide +kernel, rfl⟩
theorem dX2_put_32 : St mX2_put 32 (.aload_n 0) 1 33 := ⟨by decide +kernel, rfl⟩
theorem dX2_put_33 : St mX2_put 33 (.getfield 9) 3 36 := ⟨by decide +kernel, rfl⟩
theorem dX2_put_36 : St mX2_put 36 (.iload_n 1) 1 37 := ⟨by decide +kernel, rfl⟩
theorem dX2_put_37 : St mX2_put 37 (.lload_n 2) 1 38 := ⟨by decide +kernel, rfl⟩
theorem dX2_put_38 : St mX2_put 38 (.l2i) 1 39 := ⟨by decide +kernel, rfl⟩
theorem dX2_put_39 : St mX2_put 39 (.i2b) 1 40 := ⟨by decide +kernel, rfl⟩
theorem dX2_put_40 : St mX2_put 40 (.i2l) 1 41 := ⟨by decide +kernel, rfl⟩
theorem dX2_put_41 : St mX2_put 41 (.lastore) 1 42 := ⟨by decide +kernel, rfl⟩
theorem dX2_put_42 : St mX2_put 42 (.goto 35) 3 45 := ⟨by decide +kernel, rfl⟩
theorem dX2_put_45 : St mX2_put 45 (.aload_n 0) 1 46 := ⟨by decide +kernel, rfl⟩
theorem dX2_put_46 : St mX2_put 46 (.getfield 9) 3 49 := ⟨by decide +kernel, rfl⟩
theorem dX2_put_49 : St mX2_put 49 (.iload_n 1) 1 50 := ⟨by decide +kernel, rfl⟩
theorem dX2_put_50 : St mX2_put 50 (.lload_n 2) 1 51 := ⟨by decide +kernel, rfl⟩
theorem dX2_put_51 : St mX2_put 51 (.l2i) 1 52 := ⟨by decide +kernel, rfl⟩
theorem dX2_put_52 : St mX2_put 52 (.i2s) 1 53 := ⟨by decide +kernel, rfl⟩
theorem dX2_put_53 : St mX2_put 53 (.i2l) 1 54 := ⟨by decide +kernel, rfl⟩
theorem dX2_put_54 : St mX2_put 54 (.lastore) 1 55 := ⟨by decide +kernel, rfl⟩
theorem dX2_put_55 : St mX2_put 55 (.goto 22) 3 58 := ⟨by decide +kernel, rfl⟩
theorem dX2_put_58 : St mX2_put 58 (.aload_n 0) 1 59 := ⟨by decide +kernel, rfl⟩
theorem dX2_put_59 : St mX2_put 59 (.getfield 9) 3 62 := ⟨by decide +kernel, rfl⟩
theorem dX2_put_62 : St mX2_put 62 (.iload_n 1) 1 63 := ⟨by decide +kernel, rfl⟩
theorem dX2_put_63 : St mX2_put 63 (.lload_n 2) 1 64 := ⟨by decide +kernel, rfl⟩
theorem dX2_put_64 : St mX2_put 64 (.l2i) 1 65 := ⟨by decide +kernel, rfl⟩
theorem dX2_put_65 : St mX2_put 65 (.i2l) 1 66 := ⟨by decide +kernel, rfl⟩
theorem dX2_put_66 : St mX2_put 66 (.lastore) 1 67 := ⟨by decide +kernel, rfl⟩
theorem dX2_put_67 : St mX2_put 67 (.goto 10) 3 70 := ⟨by decide +kernel, rfl⟩
theorem dX2_put_70 : St mX2_put 70 (.aload_n 0) 1 71 := ⟨by decide +kernel, rfl⟩
theorem dX2_put_71 : St mX2_put 71 (.getfield 9) 3 74 := ⟨by decide +kernel, rfl⟩
theorem dX2_put_74 : St mX2_put 74 (.iload_n 1) 1 75 := ⟨by decide +kernel, rfl⟩
theorem dX2_put_75 : St mX2_put 75 (.lload_n 2) 1 76 := ⟨by decide +kernel, rfl⟩
theorem dX2_put_76 : St mX2_put 76 (.lastore) 1 77 := ⟨by decide +kernel, rfl⟩
theorem dX2_put_77 : St mX2_put 77 (.return_) 1 78 := ⟨by decide +kernel, rfl⟩
theorem dX3_init_0 : St mX3_init 0 (.aload_n 0) 1 1 := ⟨by decide +kernel, rfl⟩
theorem dX3_init_1 : St mX3_init 1 (.invokespecial 3) 3 4 := ⟨by decide +kernel, rfl⟩
theorem dX3_init_4 : St mX3_init 4 (.aload_n 0) 1 5 := ⟨by decide +kernel, rfl⟩
theorem dX3_init_5 : St mX3_init 5 (.iconst 5) 1 6 := ⟨by decide +kernel, rfl⟩
theorem dX3_init_6 : St mX3_init 6 (.newarray .int) 2 8 := ⟨by decide +kernel, rfl⟩
theorem dX3_init_8 : St mX3_init 8 (.putfield 9) 3 11 := ⟨by decide +kernel, rfl⟩
theorem dX3_init_11 : St mX3_init 11 (.aload_n 0) 1 12 := ⟨by decide +kernel, rfl⟩
theorem dX3_init_12 : St mX3_init 12 (.iconst 5) 1 13 := ⟨by decide +kernel, rfl⟩
theorem dX3_init_13 : St mX3_init 13 (.newarray .int) 2 15 := ⟨by decide +kernel, rfl⟩
theorem dX3_init_15 : St mX3_init 15 (.putfield 15) 3 18 := ⟨by decide +kernel, rfl⟩
theorem dX3_init_18 : St mX3_init 18 (.aload_n 0) 1 19 := ⟨by decide +kernel, rfl⟩
theorem dX3_init_19 : St mX3_init 19 (.iconst 5) 1 20 := ⟨by decide +kernel, rfl⟩
theorem dX3_init_20 : St mX3_init 20 (.newarray .int) 2 22 := ⟨by decide +kernel, rfl⟩
theorem dX3_init_22 : St mX3_init 22 (.putfield 18) 3 25 := ⟨by decide +kernel, rfl⟩
theorem dX3_init_25 : St mX3_init 25 (.aload_n 0) 1 26 := ⟨by decide +kernel, rfl⟩
theorem dX3_init_26 : St mX3_init 26 (.bipush 6) 2 28 := ⟨by decide +kernel, rfl⟩
theorem dX3_init_28 : St mX3_init 28 (.newarray .int) 2 30 := ⟨by decide +kernel, rfl⟩
theorem dX3_init_30 : St mX3_init 30 (.putfield 21) 3 33 := ⟨by decide +kernel, rfl⟩
theorem dX3_init_33 : St mX3_init 33 (.aload_n 0) 1 34 := ⟨by decide +kernel, rfl⟩
theorem dX3_init_34 : St mX3_init 34 (.iconst 0) 1 35 := ⟨by decide +kernel, rfl⟩
theorem dX3_init_35 : St mX3_init 35 (.putfield 24) 3 38 := ⟨by decide +kernel, rfl⟩
theorem dX3_init_38 : St mX3_init 38 (.aload_n 0) 1 39 := ⟨by decide +kernel, rfl⟩
theorem dX3_init_39 : St mX3_init 39 (.iconst 1) 1 40 := ⟨by decide +kernel, rfl⟩
theorem dX3_init_40 : St mX3_init 40 (.putfield 28) 3 43 := ⟨by decide +kernel, rfl⟩
theorem dX3_init_43 : St mX3_init 43 (.return_) 1 44 := ⟨by decide +kernel, rfl⟩
theorem dX3_become_0 : St mX3_become 0 (.aload_n 1) 1 1 := ⟨by decide +kernel, rfl⟩
theorem dX3_become_1 : St mX3_become 1 (.getfield 9) 3 4 := ⟨by decide +kernel, rfl⟩
theorem dX3_become_4 : St mX3_become 4 (.iconst 0) 1 5 := ⟨by decide +kernel, rfl⟩
theorem dX3_become_5 : St mX3_become 5 (.aload_n 0) 1 6 := ⟨by decide +kernel, rfl⟩
theorem dX3_become_6 : St mX3_become 6 (.getfield 9) 3 9 := ⟨by decide +kernel, rfl⟩
theorem dX3_become_9 : St mX3_become 9 (.iconst 0) 1 10 := ⟨by decide +kernel, rfl⟩
theorem dX3_become_10 : St mX3_become 10 (.iconst 5) 1 11 := ⟨by decide +kernel, rfl⟩
theorem dX3_become_11 : St mX3_become 11 (.invokestatic 31) 3 14 := ⟨by decide +kernel, rfl⟩
theorem dX3_become_14 : St mX3_become 14 (.aload_n 1) 1 15 := ⟨by decide +kernel, rfl⟩
theorem dX3_become_15 : St mX3_become 15 (.getfield 15) 3 18 := ⟨by decide +kernel, rfl⟩
theorem dX3_become_18 : St mX3_become 18 (.iconst 0) 1 19 := ⟨by decide +kernel, rfl⟩
theorem dX3_become_19 : St mX3_become 19 (.aload_n 0) 1 20 := ⟨by decide +kernel, rfl⟩
theorem dX3_become_20 : St mX3_become 20 (.getfield 15) 3 23 := ⟨by decide +kernel, rfl⟩
theorem dX3_become_23 : St mX3_become 23 (.iconst 0) 1 24 := ⟨by decide +kernel, rfl⟩
theorem dX3_become_24 : St mX3_become 24 (.iconst 5) 1 25 := ⟨by decide +kernel, rfl⟩
theorem dX3_become_25 : St mX3_become 25 (.invokestatic 31) 3 28 := ⟨by decide +kernel, rfl⟩
theorem dX3_become_28 : St mX3_become 28 (.aload_n 1) 1 29 := ⟨by decide +kernel, rfl⟩
theorem dX3_become_29 : St mX3_become 29 (.getfield 18) 3 32 := ⟨by decide +kernel, rfl⟩
theorem dX3_become_32 : St mX3_become 32 (.iconst 0) 1 33 := ⟨by decide +kernel, rfl⟩
theorem dX3_become_33 : St mX3_become 33 (.aload_n 0) 1 34 := ⟨by decide +kernel, rfl⟩
theorem dX3_become_34 : St mX3_become 34 (.getfield 18) 3 37 := ⟨by decide +kernel, rfl⟩
theorem dX3_become_37 : St mX3_become 37 (.iconst 0) 1 38 := ⟨by decide +kernel, rfl⟩
theorem dX3_become_38 : St mX3_become 38 (.iconst 5) 1 39 := ⟨by decide +kernel, rfl⟩
theorem dX3_become_39 : St mX3_become 39 (.invokestatic 31) 3 42 := ⟨by decide +kernel, rfl⟩
theorem dX3_become_42 : St mX3_become 42 (.aload_n 1) 1 43 := ⟨by decide +kernel, rfl⟩
theorem dX3_become_43 : St mX3_become 43 (.getfield 21) 3 46 := ⟨by decide +kernel, rfl⟩
theorem dX3_become_46 : St mX3_become 46 (.iconst 0) 1 47 := ⟨by decide +kernel, rfl⟩
theorem dX3_become_47 : St mX3_become 47 (.aload_n 0) 1 48 := ⟨by decide +kernel, rfl⟩
theorem dX3_become_48 : St mX3_become 48 (.getfield 21) 3 51 := ⟨by decide +kernel, rfl⟩
theorem dX3_become_51 : St mX3_become 51 (.iconst 0) 1 52 := ⟨by decide +kernel, rfl⟩
theorem dX3_become_52 : St mX3_become 52 (.bipush 6) 2 54 := ⟨by decide +kernel, rfl⟩
theorem dX3_become_54 : St mX3_become 54 (.invokestatic 31) 3 57 := ⟨by decide +kernel, rfl⟩
theorem dX3_become_57 : St mX3_become 57 (.aload_n 0) 1 58 := ⟨by decide +kernel, rfl⟩
theorem dX3_become_58 : St mX3_become 58 (.aload_n 1) 1 59 := ⟨by decide +kernel, rfl⟩
theorem dX3_become_59 : St mX3_become 59 (.getfield 24) 3 62 := ⟨by decide +kernel, rfl⟩
theorem dX3_become_62 : St mX3_become 62 (.putfield 24) 3 65 := ⟨by decide +kernel, rfl⟩
theorem dX3_become_65 : St mX3_become 65 (.aload_n 0) 1 66 := ⟨by decide +kernel, rfl⟩
theorem dX3_become_66 : St mX3_become 66 (.aload_n 1) 1 67 := ⟨by decide +kernel, rfl⟩
theorem dX3_become_67 : St mX3_become 67 (.getfield 28) 3 70 := ⟨by decide +kernel, rfl⟩
theorem dX3_become_70 : St mX3_become 70 (.putfield 28) 3 73 := ⟨by decide +kernel, rfl⟩
theorem dX3_become_73 : St mX3_become 73 (.return_) 1 74 := ⟨by decide +kernel, rfl⟩
theorem dX3_clearWall_0 : St mX3_clearWall 0 (.aload_n 0) 1 1 := ⟨by decide +kernel, rfl⟩
theorem dX3_clearWall_1 : St mX3_clearWall 1 (.getfield 9) 3 4 := ⟨by decide +kernel, rfl⟩
theorem dX3_clearWall_4 : St mX3_clearWall 4 (.iload_n 1) 1 5 := ⟨by decide +kernel, rfl⟩
theorem dX3_clearWall_5 : St mX3_clearWall 5 (.iconst 0) 1 6 := ⟨by decide +kernel, rfl⟩
theorem dX3_clearWall_6 : St mX3_clearWall 6 (.iastore) 1 7 := ⟨by decide +kernel, rfl⟩
theorem dX3_clearWall_7 : St mX3_clearWall 7 (.aload_n 0) 1 8 := ⟨by decide +kernel, rfl⟩
theorem dX3_clearWall_8 : St mX3_clearWall 8 (.getfield 15) 3 11 := ⟨by decide +kernel, rfl⟩
theorem dX3_clearWall_11 : St mX3_clearWall 11 (.iload_n 1) 1 12 := ⟨by decide +kernel, rfl⟩
theorem dX3_clearWall_12 : St mX3_clearWall 12 (.iconst 0) 1 13 := ⟨by decide +kernel, rfl⟩
theorem dX3_clearWall_13 : St mX3_clearWall 13 (.iastore) 1 14 := ⟨by decide +kernel, rfl⟩
theorem dX3_clearWall_14 : St mX3_clearWall 14 (.aload_n 0) 1 15 := ⟨by decide +kernel, rfl⟩
theorem dX3_clearWall_15 : St mX3_clearWall 15 (.getfield 18) 3 18 := ⟨by decide +kernel, rfl⟩
theorem dX3_clearWall_18 : St mX3_clearWall 18 (.iload_n 1) 1 19 := ⟨by decide +kernel, rfl⟩
theorem dX3_clearWall_19 : St mX3_clearWall 19 (.iconst 0) 1 20 := ⟨by decide +kernel, rfl⟩
theorem dX3_clearWall_20 : St mX3_clearWall 20 (.iastore) 1 21 := ⟨by decide +kernel, rfl⟩
theorem dX3_clearWall_21 : St mX3_clearWall 21 (.return_) 1 22 := ⟨by decide +kernel, rfl⟩
theorem dX3_weeksToApology_0 : St mX3_weeksToApology 0 (.iconst 0) 1 1 := ⟨by decide +kernel, rfl⟩
theorem dX3_weeksToApology_1 : St mX3_weeksToApology 1 (.aload_n 0) 1 2 := ⟨by decide +kernel, rfl⟩
theorem dX3_weeksToApology_2 : St mX3_weeksToApology 2 (.getfield 18) 3 5 := ⟨by decide +kernel, rfl⟩
theorem dX3_weeksToApology_5 : St mX3_weeksToApology 5 (.iload_n 1) 1 6 := ⟨by decide +kernel, rfl⟩
theorem dX3_weeksToApology_6 : St mX3_weeksToApology 6 (.iaload) 1 7 := ⟨by decide +kernel, rfl⟩
theorem dX3_weeksToApology_7 : St mX3_weeksToApology 7 (.aload_n 0) 1 8 := ⟨by decide +kernel, rfl⟩
theorem dX3_weeksToApology_8 : St mX3_weeksToApology 8 (.getfield 24) 3 11 := ⟨by decide +kernel, rfl⟩
theorem dX3_weeksToApology_11 : St mX3_weeksToApology 11 (.isub) 1 12 := ⟨by decide +kernel, rfl⟩
theorem dX3_weeksToApology_12 : St mX3_weeksToApology 12 (.invokestatic 37) 3 15 := ⟨by decide +kernel, rfl⟩
theorem dX3_weeksToApology_15 : St mX3_weeksToApology 15 (.ireturn) 1 16 := ⟨by decide +kernel, rfl⟩
end
section
theorem dX4_init_0 : St mX4_init 0 (.aload_n 0) 1 1 := ⟨by decide +kernel, rfl⟩
theorem dX4_init_1 : St mX4_init 1 (.invokespecial 3) 3 4 := ⟨by decide +kernel, rfl⟩
theorem dX4_init_4 : St mX4_init 4 (.aload_n 0) 1 5 := ⟨by decide +kernel, rfl⟩
theorem dX4_init_5 : St mX4_init 5 (.bipush 6) 2 7 := ⟨by decide +kernel, rfl⟩
theorem dX4_init_7 : St mX4_init 7 (.newarray .int) 2 9 := ⟨by decide +kernel, rfl⟩
theorem dX4_init_9 : St mX4_init 9 (.putfield 9) 3 12 := ⟨by decide +kernel, rfl⟩
theorem dX4_init_12 : St mX4_init 12 (.aload_n 0) 1 13 := ⟨by decide +kernel, rfl⟩
theorem dX4_init_13 : St mX4_init 13 (.bipush 6) 2 15 := ⟨by decide +kernel, rfl⟩
theorem dX4_init_15 : St mX4_init 15 (.newarray .int) 2 17 := ⟨by decide +kernel, rfl⟩
theorem dX4_init_17 : St mX4_init 17 (.putfield 15) 3 20 := ⟨by decide +kernel, rfl⟩
theorem dX4_init_20 : St mX4_init 20 (.aload_n 0) 1 21 := ⟨by decide +kernel, rfl⟩
theorem dX4_init_21 : St mX4_init 21 (.iconst 0) 1 22 := ⟨by decide +kernel, rfl⟩
theorem dX4_init_22 : St mX4_init 22 (.putfield 18) 3 25 := ⟨by decide +kernel, rfl⟩
theorem dX4_init_25 : St mX4_init 25 (.aload_n 0) 1 26 := ⟨by decide +kernel, rfl⟩
theorem dX4_init_26 : St mX4_init 26 (.bipush 12) 2 28 := ⟨by decide +kernel, rfl⟩
theorem dX4_init_28 : St mX4_init 28 (.putfield 22) 3 31 := ⟨by decide +kernel, rfl⟩
theorem dX4_init_31 : St mX4_init 31 (.aload_n 0) 1 32 := ⟨by decide +kernel, rfl⟩
theorem dX4_init_32 : St mX4_init 32 (.iconst 1) 1 33 := ⟨by decide +kernel, rfl⟩
theorem dX4_init_33 : St mX4_init 33 (.putfield 25) 3 36 := ⟨by decide +kernel, rfl⟩
theorem dX4_init_36 : St mX4_init 36 (.aload_n 0) 1 37 := ⟨by decide +kernel, rfl⟩
theorem dX4_init_37 : St mX4_init 37 (.new 28) 3 40 := ⟨by decide +kernel, rfl⟩
theorem dX4_init_40 : St mX4_init 40 (.dup) 1 41 := ⟨by decide +kernel, rfl⟩
theorem dX4_init_41 : St mX4_init 41 (.invokespecial 30) 3 44 := ⟨by decide +kernel, rfl⟩
theorem dX4_init_44 : St mX4_init 44 (.putfield 31) 3 47 := ⟨by decide +kernel, rfl⟩
theorem dX4_init_47 : St mX4_init 47 (.aload_n 0) 1 48 := ⟨by decide +kernel, rfl⟩
theorem dX4_init_48 : St mX4_init 48 (.new 35) 3 51 := ⟨by decide +kernel, rfl⟩
theorem dX4_init_51 : St mX4_init 51 (.dup) 1 52 := ⟨by decide +kernel, rfl⟩
theorem dX4_init_52 : St mX4_init 52 (.invokespecial 37) 3 55 := ⟨by decide +kernel, rfl⟩
theorem dX4_init_55 : St mX4_init 55 (.putfield 38) 3 58 := ⟨by decide +kernel, rfl⟩
theorem dX4_init_58 : St mX4_init 58 (.return_) 1 59 := ⟨by decide +kernel, rfl⟩
theorem dX4_become_0 : St mX4_become 0 (.aload_n 1) 1 1 := ⟨by decide +kernel, rfl⟩
theorem dX4_become_1 : St mX4_become 1 (.getfield 9) 3 4 := ⟨by decide +kernel, rfl⟩
theorem dX4_become_4 : St mX4_become 4 (.iconst 0) 1 5 := ⟨by decide +kernel, rfl⟩
theorem dX4_become_5 : St mX4_become 5 (.aload_n 0) 1 6 := ⟨by decide +kernel, rfl⟩
theorem dX4_become_6 : St mX4_become 6 (.getfield 9) 3 9 := ⟨by decide +kernel, rfl⟩
theorem dX4_become_9 : St mX4_become 9 (.iconst 0) 1 10 := ⟨by decide +kernel, rfl⟩
theorem dX4_become_10 : St mX4_become 10 (.bipush 6) 2 12 := ⟨by decide +kernel, rfl⟩
theorem dX4_become_12 : St mX4_become 12 (.invokestatic 42) 3 15 := ⟨by decide +kernel, rfl⟩
theorem dX4_become_15 : St mX4_become 15 (.aload_n 1) 1 16 := ⟨by decide +kernel, rfl⟩
theorem dX4_become_16 : St mX4_become 16 (.getfield 15) 3 19 := ⟨by decide +kernel, rfl⟩
theorem dX4_become_19 : St mX4_become 19 (.iconst 0) 1 20 := ⟨by decide +kernel, rfl⟩
theorem dX4_become_20 : St mX4_become 20 (.aload_n 0) 1 21 := ⟨by decide +kernel, rfl⟩
theorem dX4_become_21 : St mX4_become 21 (.getfield 15) 3 24 := ⟨by decide +kernel, rfl⟩
theorem dX4_become_24 : St mX4_become 24 (.iconst 0) 1 25 := ⟨by decide +kernel, rfl⟩
theorem dX4_become_25 : St mX4_become 25 (.bipush 6) 2 27 := ⟨by decide +kernel, rfl⟩
theorem dX4_become_27 : St mX4_become 27 (.invokestatic 42) 3 30 := ⟨by decide +kernel, rfl⟩
theorem dX4_become_30 : St mX4_become 30 (.aload_n 0) 1 31 := ⟨by decide +kernel, rfl⟩
theorem dX4_become_31 : St mX4_become 31 (.aload_n 1) 1 32 := ⟨by decide +kernel, rfl⟩
theorem dX4_become_32 : St mX4_become 32 (.getfield 18) 3 35 := ⟨by decide +kernel, rfl⟩
theorem dX4_become_35 : St mX4_become 35 (.putfield 18) 3 38 := ⟨by decide +kernel, rfl⟩
theorem dX4_become_38 : St mX4_become 38 (.aload_n 0) 1 39 := ⟨by decide +kernel, rfl⟩
theorem dX4_become_39 : St mX4_become 39 (.aload_n 1) 1 40 := ⟨by decide +kernel, rfl⟩
theorem dX4_become_40 : St mX4_become 40 (.getfield 22) 3 43 := ⟨by decide +kernel, rfl⟩
theorem dX4_become_43 : St mX4_become 43 (.putfield 22) 3 46 := ⟨by decide +kernel, rfl⟩
theorem dX4_become_46 : St mX4_become 46 (.aload_n 0) 1 47 := ⟨by decide +kernel, rfl⟩
theorem dX4_become_47 : St mX4_become 47 (.aload_n 1) 1 48 := ⟨by decide +kernel, rfl⟩
theorem dX4_become_48 : St mX4_become 48 (.getfield 25) 3 51 := ⟨by decide +kernel, rfl⟩
theorem dX4_become_51 : St mX4_become 51 (.putfield 25) 3 54 := ⟨by decide +kernel, rfl⟩
theorem dX4_become_54 : St mX4_become 54 (.aload_n 0) 1 55 := ⟨by decide +kernel, rfl⟩
theorem dX4_become_55 : St mX4_become 55 (.getfield 31) 3 58 := ⟨by decide +kernel, rfl⟩
theorem dX4_become_58 : St mX4_become 58 (.aload_n 1) 1 59 := ⟨by decide +kernel, rfl⟩
theorem dX4_become_59 : St mX4_become 59 (.getfield 31) 3 62 := ⟨by decide +kernel, rfl⟩
theorem dX4_become_62 : St mX4_become 62 (.invokevirtual 48) 3 65 := ⟨by decide +kernel, rfl⟩
theorem dX4_become_65 : St mX4_become 65 (.aload_n 0) 1 66 := ⟨by decide +kernel, rfl⟩
theorem dX4_become_66 : St mX4_become 66 (.getfield 38) 3 69 := ⟨by decide +kernel, rfl⟩
theorem dX4_become_69 : St mX4_become 69 (.aload_n 1) 1 70 := ⟨by decide +kernel, rfl⟩
theorem dX4_become_70 : St mX4_become 70 (.getfield 38) 3 73 := ⟨by decide +kernel, rfl⟩
theorem dX4_become_73 : St mX4_become 73 (.invokevirtual 52) 3 76 := ⟨by decide +kernel, rfl⟩
theorem dX4_become_76 : St mX4_become 76 (.return_) 1 77 := ⟨by decide +kernel, rfl⟩
theorem dX4_remember_0 : St mX4_remember 0 (.aload_n 0) 1 1 := ⟨by decide +kernel, rfl⟩
theorem dX4_remember_1 : St mX4_remember 1 (.getfield 38) 3 4 := ⟨by decide +kernel, rfl⟩
theorem dX4_remember_4 : St mX4_remember 4 (.aload_n 0) 1 5 := ⟨by decide +kernel, rfl⟩
theorem dX4_remember_5 : St mX4_remember 5 (.getfield 31) 3 8 := ⟨by decide +kernel, rfl⟩
theorem dX4_remember_8 : St mX4_remember 8 (.invokevirtual 55) 3 11 := ⟨by decide +kernel, rfl⟩
theorem dX4_remember_11 : St mX4_remember 11 (.return_) 1 12 := ⟨by decide +kernel, rfl⟩
theorem dX4_walls_0 : St mX4_walls 0 (.aload_n 0) 1 1 := ⟨by decide +kernel, rfl⟩
theorem dX4_walls_1 : St mX4_walls 1 (.getfield 18) 3 4 := ⟨by decide +kernel, rfl⟩
theorem dX4_walls_4 : St mX4_walls 4 (.iconst 2) 1 5 := ⟨by decide +kernel, rfl⟩
theorem dX4_walls_5 : St mX4_walls 5 (.if_icmp .ge 7) 3 8 := ⟨by decide +kernel, rfl⟩
theorem dX4_walls_8 : St mX4_walls 8 (.iconst 0) 1 9 := ⟨by decide +kernel, rfl⟩
theorem dX4_walls_9 : St mX4_walls 9 (.goto 9) 3 12 := ⟨by decide +kernel, rfl⟩
theorem dX4_walls_12 : St mX4_walls 12 (.aload_n 0) 1 13 := ⟨by decide +kernel, rfl⟩
theorem dX4_walls_13 : St mX4_walls 13 (.getfield 18) 3 16 := ⟨by decide +kernel, rfl⟩
theorem dX4_walls_16 : St mX4_walls 16 (.iconst 1) 1 17 := ⟨by decide +kernel, rfl⟩
theorem dX4_walls_17 : St mX4_walls 17 (.isub) 1 18 := ⟨by decide +kernel, rfl⟩
theorem dX4_walls_18 : St mX4_walls 18 (.ireturn) 1 19 := ⟨by decide +kernel, rfl⟩
theorem dX4_isGarden_0 : St mX4_isGarden 0 (.iload_n 1) 1 1 := ⟨by decide +kernel, rfl⟩
theorem dX4_isGarden_1 : St mX4_isGarden 1 (.iconst 0) 1 2 := ⟨by decide +kernel, rfl⟩
theorem dX4_isGarden_2 : St mX4_isGarden 2 (.aload_n 0) 1 3 := ⟨by decide +kernel, rfl⟩
theorem dX4_isGarden_3 : St mX4_isGarden 3 (.getfield 18) 3 6 := ⟨by decide +kernel, rfl⟩
theorem dX4_isGarden_6 : St mX4_isGarden 6 (.iconst 1) 1 7 := ⟨by decide +kernel, rfl⟩
theorem dX4_isGarden_7 : St mX4_isGarden 7 (.isub) 1 8 := ⟨by decide +kernel, rfl⟩
theorem dX4_isGarden_8 : St mX4_isGarden 8 (.invokestatic 58) 3 11 := ⟨by decide +kernel, rfl⟩
theorem dX4_isGarden_11 : St mX4_isGarden 11 (.ireturn) 1 12 := ⟨by decide +kernel, rfl⟩
theorem dX4_isWall_0 : St mX4_isWall 0 (.iload_n 1) 1 1 := ⟨by decide +kernel, rfl⟩
theorem dX4_isWall_1 : St mX4_isWall 1 (.iconst 0) 1 2 := ⟨by decide +kernel, rfl⟩
theorem dX4_isWall_2 : St mX4_isWall 2 (.aload_n 0) 1 3 := ⟨by decide +kernel, rfl⟩
theorem dX4_isWall_3 : St mX4_isWall 3 (.invokevirtual 62) 3 6 := ⟨by decide +kernel, rfl⟩
theorem dX4_isWall_6 : St mX4_isWall 6 (.iconst 1) 1 7 := ⟨by decide +kernel, rfl⟩
theorem dX4_isWall_7 : St mX4_isWall 7 (.isub) 1 8 := ⟨by decide +kernel, rfl⟩
theorem dX4_isWall_8 : St mX4_isWall 8 (.invokestatic 58) 3 11 := ⟨by decide +kernel, rfl⟩
theorem dX4_isWall_11 : St mX4_isWall 11 (.ireturn) 1 12 := ⟨by decide +kernel, rfl⟩
theorem dX4_settle_0 : St mX4_settle 0 (.aload_n 0) 1 1 := ⟨by decide +kernel, rfl⟩
theorem dX4_settle_1 : St mX4_settle 1 (.getfield 18) 3 4 := ⟨by decide +kernel, rfl⟩
theorem dX4_settle_4 : St mX4_settle 4 (.istore_n 3) 1 5 := ⟨by decide +kernel, rfl⟩
theorem dX4_settle_5 : St mX4_settle 5 (.aload_n 0) 1 6 := ⟨by decide +kernel, rfl⟩
theorem dX4_settle_6 : St mX4_settle 6 (.getfield 9) 3 9 := ⟨by decide +kernel, rfl⟩
theorem dX4_settle_9 : St mX4_settle 9 (.iload_n 3) 1 10 := ⟨by decide +kernel, rfl⟩
theorem dX4_settle_10 : St mX4_settle 10 (.iload_n 1) 1 11 := ⟨by decide +kernel, rfl⟩
theorem dX4_settle_11 : St mX4_settle 11 (.iastore) 1 12 := ⟨by decide +kernel, rfl⟩
theorem dX4_settle_12 : St mX4_settle 12 (.aload_n 0) 1 13 := ⟨by decide +kernel, rfl⟩
theorem dX4_settle_13 : St mX4_settle 13 (.getfield 15) 3 16 := ⟨by decide +kernel, rfl⟩
theorem dX4_settle_16 : St mX4_settle 16 (.iload_n 3) 1 17 := ⟨by decide +kernel, rfl⟩
theorem dX4_settle_17 : St mX4_settle 17 (.iload_n 2) 1 18 := ⟨by decide +kernel, rfl⟩
theorem dX4_settle_18 : St mX4_settle 18 (.iastore) 1 19 := ⟨by decide +kernel, rfl⟩
theorem dX4_settle_19 : St mX4_settle 19 (.aload_n 0) 1 20 := ⟨by decide +kernel, rfl⟩
theorem dX4_settle_20 : St mX4_settle 20 (.getfield 31) 3 23 := ⟨by decide +kernel, rfl⟩
theorem dX4_settle_23 : St mX4_settle 23 (.getfield 66) 3 26 := ⟨by decide +kernel, rfl⟩
theorem dX4_settle_26 : St mX4_settle 26 (.iload_n 3) 1 27 := ⟨by decide +kernel, rfl⟩
theorem dX4_settle_27 : St mX4_settle 27 (.iconst 0) 1 28 := ⟨by decide +kernel, rfl⟩
theorem dX4_settle_28 : St mX4_settle 28 (.iastore) 1 29 := ⟨by decide +kernel, rfl⟩
theorem dX4_settle_29 : St mX4_settle 29 (.aload_n 0) 1 30 := ⟨by decide +kernel, rfl⟩
theorem dX4_settle_30 : St mX4_settle 30 (.iload_n 3) 1 31 := ⟨by decide +kernel, rfl⟩
theorem dX4_settle_31 : St mX4_settle 31 (.iconst 1) 1 32 := ⟨by decide +kernel, rfl⟩
theorem dX4_settle_32 : St mX4_settle 32 (.iadd) 1 33 := ⟨by decide +kernel, rfl⟩
theorem dX4_settle_33 : St mX4_settle 33 (.putfield 18) 3 36 := ⟨by decide +kernel, rfl⟩
theorem dX4_settle_36 : St mX4_settle 36 (.iload_n 3) 1 37 := ⟨by decide +kernel, rfl⟩
theorem dX4_settle_37 : St mX4_settle 37 (.ifCond .le 13) 3 40 := ⟨by decide +kernel, rfl⟩
theorem dX4_settle_40 : St mX4_settle 40 (.aload_n 0) 1 41 := ⟨by decide +kernel, rfl⟩
theorem dX4_settle_41 : St mX4_settle 41 (.getfield 31) 3 44 := ⟨by decide +kernel, rfl⟩
theorem dX4_settle_44 : St mX4_settle 44 (.iload_n 3) 1 45 := ⟨by decide +kernel, rfl⟩
theorem dX4_settle_45 : St mX4_settle 45 (.iconst 1) 1 46 := ⟨by decide +kernel, rfl⟩
theorem dX4_settle_46 : St mX4_settle 46 (.isub) 1 47 := ⟨by decide +kernel, rfl⟩
theorem dX4_settle_47 : St mX4_settle 47 (.invokevirtual 69) 3 50 := ⟨by decide +kernel, rfl⟩
theorem dX4_settle_50 : St mX4_settle 50 (.aload_n 0) 1 51 := ⟨by decide +kernel, rfl⟩
theorem dX4_settle_51 : St mX4_settle 51 (.getfield 38) 3 54 := ⟨by decide +kernel, rfl⟩
theorem dX4_settle_54 : St mX4_settle 54 (.invokevirtual 73) 3 57 := ⟨by decide +kernel, rfl⟩
theorem dX4_settle_57 : St mX4_settle 57 (.iload_n 3) 1 58 := ⟨by decide +kernel, rfl⟩
theorem dX4_settle_58 : St mX4_settle 58 (.ireturn) 1 59 := ⟨by decide +kernel, rfl⟩
theorem dX4_layOut_0 : St mX4_layOut 0 (.aload_n 0) 1 1 := ⟨by decide +kernel, rfl⟩
theorem dX4_layOut_1 : St mX4_layOut 1 (.iconst 0) 1 2 := ⟨by decide +kernel, rfl⟩
theorem dX4_layOut_2 : St mX4_layOut 2 (.putfield 18) 3 5 := ⟨by decide +kernel, rfl⟩
theorem dX4_layOut_5 : St mX4_layOut 5 (.aload_n 0) 1 6 := ⟨by decide +kernel, rfl⟩
theorem dX4_layOut_6 : St mX4_layOut 6 (.aload_n 1) 1 7 := ⟨by decide +kernel, rfl⟩
theorem dX4_layOut_7 : St mX4_layOut 7 (.getfield 76) 3 10 := ⟨by decide +kernel, rfl⟩
theorem dX4_layOut_10 : St mX4_layOut 10 (.putfield 22) 3 13 := ⟨by decide +kernel, rfl⟩
theorem dX4_layOut_13 : St mX4_layOut 13 (.aload_n 0) 1 14 := ⟨by decide +kernel, rfl⟩
theorem dX4_layOut_14 : St mX4_layOut 14 (.getfield 31) 3 17 := ⟨by decide +kernel, rfl⟩
theorem dX4_layOut_17 : St mX4_layOut 17 (.iconst 0) 1 18 := ⟨by decide +kernel, rfl⟩
theorem dX4_layOut_18 : St mX4_layOut 18 (.putfield 79) 3 21 := ⟨by decide +kernel, rfl⟩
theorem dX4_layOut_21 : St mX4_layOut 21 (.iconst 0) 1 22 := ⟨by decide +kernel, rfl⟩
theorem dX4_layOut_22 : St mX4_layOut 22 (.istore_n 2) 1 23 := ⟨by decide +kernel, rfl⟩
theorem dX4_layOut_23 : St mX4_layOut 23 (.iload_n 2) 1 24 := ⟨by decide +kernel, rfl⟩
theorem dX4_layOut_24 : St mX4_layOut 24 (.aload_n 1) 1 25 := ⟨by decide +kernel, rfl⟩
theorem dX4_layOut_25 : St mX4_layOut 25 (.getfield 82) 3 28 := ⟨by decide +kernel, rfl⟩
theorem dX4_layOut_28 : St mX4_layOut 28 (.if_icmp .ge 26) 3 31 := ⟨by decide +kernel, rfl⟩
theorem dX4_layOut_31 : St mX4_layOut 31 (.aload_n 0) 1 32 := ⟨by decide +kernel, rfl⟩
theorem dX4_layOut_32 : St mX4_layOut 32 (.aload_n 1) 1 33 := ⟨by decide +kernel, rfl⟩
theorem dX4_layOut_33 : St mX4_layOut 33 (.getfield 83) 3 36 := ⟨by decide +kernel, rfl⟩
theorem dX4_layOut_36 : St mX4_layOut 36 (.iload_n 2) 1 37 := ⟨by decide +kernel, rfl⟩
theorem dX4_layOut_37 : St mX4_layOut 37 (.iaload) 1 38 := ⟨by decide +kernel, rfl⟩
theorem dX4_layOut_38 : St mX4_layOut 38 (.aload_n 1) 1 39 := ⟨by decide +kernel, rfl⟩
theorem dX4_layOut_39 : St mX4_layOut 39 (.getfield 84) 3 42 := ⟨by decide +kernel, rfl⟩
theorem dX4_layOut_42 : St mX4_layOut 42 (.iload_n 2) 1 43 := ⟨by decide +kernel, rfl⟩
theorem dX4_layOut_43 : St mX4_layOut 43 (.iaload) 1 44 := ⟨by decide +kernel, rfl⟩
theorem dX4_layOut_44 : St mX4_layOut 44 (.invokevirtual 85) 3 47 := ⟨by decide +kernel, rfl⟩
theorem dX4_layOut_47 : St mX4_layOut 47 (.pop) 1 48 := ⟨by decide +kernel, rfl⟩
theorem dX4_layOut_48 : St mX4_layOut 48 (.iinc 2 1) 3 51 := ⟨by decide +kernel, rfl⟩
theorem dX4_layOut_51 : St mX4_layOut 51 (.goto (-28)) 3 54 := ⟨by decide +kernel, rfl⟩
theorem dX4_layOut_54 : St mX4_layOut 54 (.iconst 0) 1 55 := ⟨by decide +kernel, rfl⟩
theorem dX4_layOut_55 : St mX4_layOut 55 (.istore_n 2) 1 56 := ⟨by decide +kernel, rfl⟩
theorem dX4_layOut_56 : St mX4_layOut 56 (.iload_n 2) 1 57 := ⟨by decide +kernel, rfl⟩
theorem dX4_layOut_57 : St mX4_layOut 57 (.aload_n 0) 1 58 := ⟨by decide +kernel, rfl⟩
theorem dX4_layOut_58 : St mX4_layOut 58 (.invokevirtual 62) 3 61 := ⟨by decide +kernel, rfl⟩
theorem dX4_layOut_61 : St mX4_layOut 61 (.if_icmp .ge 24) 3 64 := ⟨by decide +kernel, rfl⟩
theorem dX4_layOut_64 : St mX4_layOut 64 (.aload_n 0) 1 65 := ⟨by decide +kernel, rfl⟩
theorem dX4_layOut_65 : St mX4_layOut 65 (.getfield 31) 3 68 := ⟨by decide +kernel, rfl⟩
theorem dX4_layOut_68 : St mX4_layOut 68 (.getfield 89) 3 71 := ⟨by decide +kernel, rfl⟩
theorem dX4_layOut_71 : St mX4_layOut 71 (.iload_n 2) 1 72 := ⟨by decide +kernel, rfl⟩
theorem dX4_layOut_72 : St mX4_layOut 72 (.aload_n 1) 1 73 := ⟨by decide +kernel, rfl⟩
theorem dX4_layOut_73 : St mX4_layOut 73 (.getfield 92) 3 76 := ⟨by decide +kernel, rfl⟩
theorem dX4_layOut_76 : St mX4_layOut 76 (.iload_n 2) 1 77 := ⟨by decide +kernel, rfl⟩
theorem dX4_layOut_77 : St mX4_layOut 77 (.iaload) 1 78 := ⟨by decide +kernel, rfl⟩
theorem dX4_layOut_78 : St mX4_layOut 78 (.iastore) 1 79 := ⟨by decide +kernel, rfl⟩
theorem dX4_layOut_79 : St mX4_layOut 79 (.iinc 2 1) 3 82 := ⟨by decide +kernel, rfl⟩
theorem dX4_layOut_82 : St mX4_layOut 82 (.goto (-26)) 3 85 := ⟨by decide +kernel, rfl⟩
theorem dX4_layOut_85 : St mX4_layOut 85 (.return_) 1 86 := ⟨by decide +kernel, rfl⟩
theorem dX4_galls_0 : St mX4_galls 0 (.iload_n 0) 1 1 := ⟨by decide +kernel, rfl⟩
theorem dX4_galls_1 : St mX4_galls 1 (.iconst 3) 1 2 := ⟨by decide +kernel, rfl⟩
theorem dX4_galls_2 : St mX4_galls 2 (.if_icmp .ne 7) 3 5 := ⟨by decide +kernel, rfl⟩
theorem dX4_galls_5 : St mX4_galls 5 (.iconst 0) 1 6 := ⟨by decide +kernel, rfl⟩
theorem dX4_galls_6 : St mX4_galls 6 (.goto 4) 3 9 := ⟨by decide +kernel, rfl⟩
theorem dX4_galls_9 : St mX4_galls 9 (.iload_n 1) 1 10 := ⟨by decide +kernel, rfl⟩
theorem dX4_galls_10 : St mX4_galls 10 (.istore_n 3) 1 11 := ⟨by decide +kernel, rfl⟩
theorem dX4_galls_11 : St mX4_galls 11 (.iload_n 3) 1 12 := ⟨by decide +kernel, rfl⟩
theorem dX4_galls_12 : St mX4_galls 12 (.iconst 3) 1 13 := ⟨by decide +kernel, rfl⟩
theorem dX4_galls_13 : St mX4_galls 13 (.idiv) 1 14 := ⟨by decide +kernel, rfl⟩
theorem dX4_galls_14 : St mX4_galls 14 (.iload_n 2) 1 15 := ⟨by decide +kernel, rfl⟩
theorem dX4_galls_15 : St mX4_galls 15 (.iconst 5) 1 16 := ⟨by decide +kernel, rfl⟩
theorem dX4_galls_16 : St mX4_galls 16 (.idiv) 1 17 := ⟨by decide +kernel, rfl⟩
theorem dX4_galls_17 : St mX4_galls 17 (.iadd) 1 18 := ⟨by decide +kernel, rfl⟩
theorem dX4_galls_18 : St mX4_galls 18 (.istore 4) 2 20 := ⟨by decide +kernel, rfl⟩
theorem dX4_galls_20 : St mX4_galls 20 (.iload_n 0) 1 21 := ⟨by decide +kernel, rfl⟩
theorem dX4_galls_21 : St mX4_galls 21 (.tableswitch 57 1 4 #[31, 43, 43, 36]) 31 52 := ⟨by decide +kernel, rfl⟩
theorem dX4_galls_52 : St mX4_galls 52 (.iconst 2) 1 53 := ⟨by decide +kernel, rfl⟩
theorem dX4_galls_53 : St mX4_galls 53 (.iload 4) 2 55 := ⟨by decide +kernel, rfl⟩
theorem dX4_galls_55 : St mX4_galls 55 (.imul) 1 56 := ⟨by decide +kernel, rfl⟩
theorem dX4_galls_56 : St mX4_galls 56 (.ireturn) 1 57 := ⟨by decide +kernel, rfl⟩
theorem dX4_galls_57 : St mX4_galls 57 (.iconst 2) 1 58 := ⟨by decide +kernel, rfl⟩
theorem dX4_galls_58 : St mX4_galls 58 (.iload 4) 2 60 := ⟨by decide +kernel, rfl⟩
theorem dX4_galls_60 : St mX4_galls 60 (.imul) 1 61 := ⟨by decide +kernel, rfl⟩
theorem dX4_galls_61 : St mX4_galls 61 (.iconst 1) 1 62 := ⟨by decide +kernel, rfl⟩
theorem dX4_galls_62 : St mX4_galls 62 (.iadd) 1 63 := ⟨by decide +kernel, rfl⟩
theorem dX4_galls_63 : St mX4_galls 63 (.ireturn) 1 64 := ⟨by decide +kernel, rfl⟩
theorem dX4_galls_64 : St mX4_galls 64 (.iload 4) 2 66 := ⟨by decide +kernel, rfl⟩
theorem dX4_galls_66 : St mX4_galls 66 (.ifCond .le 10) 3 69 := ⟨by decide +kernel, rfl⟩
theorem dX4_galls_69 : St mX4_galls 69 (.iload 4) 2 71 := ⟨by decide +kernel, rfl⟩
theorem dX4_galls_71 : St mX4_galls 71 (.iconst 1) 1 72 := ⟨by decide +kernel, rfl⟩
theorem dX4_galls_72 : St mX4_galls 72 (.isub) 1 73 := ⟨by decide +kernel, rfl⟩
theorem dX4_galls_73 : St mX4_galls 73 (.goto 4) 3 76 := ⟨by decide +kernel, rfl⟩
theorem dX4_galls_76 : St mX4_galls 76 (.iconst 0) 1 77 := ⟨by decide +kernel, rfl⟩
theorem dX4_galls_77 : St mX4_galls 77 (.ireturn) 1 78 := ⟨by decide +kernel, rfl⟩
theorem dX4_galls_78 : St mX4_galls 78 (.iload 4) 2 80 := ⟨by decide +kernel, rfl⟩
theorem dX4_galls_80 : St mX4_galls 80 (.ireturn) 1 81 := ⟨by decide +kernel, rfl⟩
theorem dX4_galledBy_0 : St mX4_galledBy 0 (.aload_n 0) 1 1 := ⟨by decide +kernel, rfl⟩
theorem dX4_galledBy_1 : St mX4_galledBy 1 (.getfield 9) 3 4 := ⟨by decide +kernel, rfl⟩
theorem dX4_galledBy_4 : St mX4_galledBy 4 (.iload_n 1) 1 5 := ⟨by decide +kernel, rfl⟩
theorem dX4_galledBy_5 : St mX4_galledBy 5 (.iaload) 1 6 := ⟨by decide +kernel, rfl⟩
theorem dX4_galledBy_6 : St mX4_galledBy 6 (.aload_n 0) 1 7 := ⟨by decide +kernel, rfl⟩
theorem dX4_galledBy_7 : St mX4_galledBy 7 (.getfield 15) 3 10 := ⟨by decide +kernel, rfl⟩
theorem dX4_galledBy_10 : St mX4_galledBy 10 (.iload_n 2) 1 11 := ⟨by decide +kernel, rfl⟩
theorem dX4_galledBy_11 : St mX4_galledBy 11 (.iaload) 1 12 := ⟨by decide +kernel, rfl⟩
theorem dX4_galledBy_12 : St mX4_galledBy 12 (.aload_n 0) 1 13 := ⟨by decide +kernel, rfl⟩
theorem dX4_galledBy_13 : St mX4_galledBy 13 (.getfield 31) 3 16 := ⟨by decide +kernel, rfl⟩
theorem dX4_galledBy_16 : St mX4_galledBy 16 (.getfield 93) 3 19 := ⟨by decide +kernel, rfl⟩
theorem dX4_galledBy_19 : St mX4_galledBy 19 (.iload_n 1) 1 20 := ⟨by decide +kernel, rfl⟩
theorem dX4_galledBy_20 : St mX4_galledBy 20 (.iload_n 2) 1 21 := ⟨by decide +kernel, rfl⟩
theorem dX4_galledBy_21 : St mX4_galledBy 21 (.invokestatic 96) 3 24 := ⟨by decide +kernel, rfl⟩
theorem dX4_galledBy_24 : St mX4_galledBy 24 (.iaload) 1 25 := ⟨by decide +kernel, rfl⟩
theorem dX4_galledBy_25 : St mX4_galledBy 25 (.invokestatic 101) 3 28 := ⟨by decide +kernel, rfl⟩
theorem dX4_galledBy_28 : St mX4_galledBy 28 (.ireturn) 1 29 := ⟨by decide +kernel, rfl⟩
theorem dX4_weekly_0 : St mX4_weekly 0 (.aload_n 0) 1 1 := ⟨by decide +kernel, rfl⟩
theorem dX4_weekly_1 : St mX4_weekly 1 (.getfield 9) 3 4 := ⟨by decide +kernel, rfl⟩
theorem dX4_weekly_4 : St mX4_weekly 4 (.iload_n 1) 1 5 := ⟨by decide +kernel, rfl⟩
theorem dX4_weekly_5 : St mX4_weekly 5 (.iaload) 1 6 := ⟨by decide +kernel, rfl⟩
theorem dX4_weekly_6 : St mX4_weekly 6 (.aload_n 0) 1 7 := ⟨by decide +kernel, rfl⟩
theorem dX4_weekly_7 : St mX4_weekly 7 (.getfield 15) 3 10 := ⟨by decide +kernel, rfl⟩
theorem dX4_weekly_10 : St mX4_weekly 10 (.iload_n 1) 1 11 := ⟨by decide +kernel, rfl⟩
theorem dX4_weekly_11 : St mX4_weekly 11 (.iconst 1) 1 12 := ⟨by decide +kernel, rfl⟩
theorem dX4_weekly_12 : St mX4_weekly 12 (.iadd) 1 13 := ⟨by decide +kernel, rfl⟩
theorem dX4_weekly_13 : St mX4_weekly 13 (.iaload) 1 14 := ⟨by decide +kernel, rfl⟩
theorem dX4_weekly_14 : St mX4_weekly 14 (.iload_n 2) 1 15 := ⟨by decide +kernel, rfl⟩
theorem dX4_weekly_15 : St mX4_weekly 15 (.invokestatic 101) 3 18 := ⟨by decide +kernel, rfl⟩
theorem dX4_weekly_18 : St mX4_weekly 18 (.aload_n 0) 1 19 := ⟨by decide +kernel, rfl⟩
theorem dX4_weekly_19 : St mX4_weekly 19 (.getfield 9) 3 22 := ⟨by decide +kernel, rfl⟩
theorem dX4_weekly_22 : St mX4_weekly 22 (.iload_n 1) 1 23 := ⟨by decide +kernel, rfl⟩
theorem dX4_weekly_23 : St mX4_weekly 23 (.iconst 1) 1 24 := ⟨by decide +kernel, rfl⟩
theorem dX4_weekly_24 : St mX4_weekly 24 (.iadd) 1 25 := ⟨by decide +kernel, rfl⟩
theorem dX4_weekly_25 : St mX4_weekly 25 (.iaload) 1 26 := ⟨by decide +kernel, rfl⟩
theorem dX4_weekly_26 : St mX4_weekly 26 (.aload_n 0) 1 27 := ⟨by decide +kernel, rfl⟩
theorem dX4_weekly_27 : St mX4_weekly 27 (.getfield 15) 3 30 := ⟨by decide +kernel, rfl⟩
theorem dX4_weekly_30 : St mX4_weekly 30 (.iload_n 1) 1 31 := ⟨by decide +kernel, rfl⟩
theorem dX4_weekly_31 : St mX4_weekly 31 (.iaload) 1 32 := ⟨by decide +kernel, rfl⟩
theorem dX4_weekly_32 : St mX4_weekly 32 (.iload_n 2) 1 33 := ⟨by decide +kernel, rfl⟩
theorem dX4_weekly_33 : St mX4_weekly 33 (.invokestatic 101) 3 36 := ⟨by decide +kernel, rfl⟩
theorem dX4_weekly_36 : St mX4_weekly 36 (.iadd) 1 37 := ⟨by decide +kernel, rfl⟩
theorem dX4_weekly_37 : St mX4_weekly 37 (.aload_n 0) 1 38 := ⟨by decide +kernel, rfl⟩
theorem dX4_weekly_38 : St mX4_weekly 38 (.getfield 25) 3 41 := ⟨by decide +kernel, rfl⟩
theorem dX4_weekly_41 : St mX4_weekly 41 (.isub) 1 42 := ⟨by decide +kernel, rfl⟩
theorem dX4_weekly_42 : St mX4_weekly 42 (.ireturn) 1 43 := ⟨by decide +kernel, rfl⟩
theorem dX4_inSight_0 : St mX4_inSight 0 (.iconst 0) 1 1 := ⟨by decide +kernel, rfl⟩
theorem dX4_inSight_1 : St mX4_inSight 1 (.istore_n 2) 1 2 := ⟨by decide +kernel, rfl⟩
theorem dX4_inSight_2 : St mX4_inSight 2 (.iload_n 1) 1 3 := ⟨by decide +kernel, rfl⟩
theorem dX4_inSight_3 : St mX4_inSight 3 (.iconst 1) 1 4 := ⟨by decide +kernel, rfl⟩
theorem dX4_inSight_4 : St mX4_inSight 4 (.isub) 1 5 := ⟨by decide +kernel, rfl⟩
theorem dX4_inSight_5 : St mX4_inSight 5 (.istore_n 3) 1 6 := ⟨by decide +kernel, rfl⟩
theorem dX4_inSight_6 : St mX4_inSight 6 (.iload_n 3) 1 7 := ⟨by decide +kernel, rfl⟩
theorem dX4_inSight_7 : St mX4_inSight 7 (.ifCond .lt 28) 3 10 := ⟨by decide +kernel, rfl⟩
theorem dX4_inSight_10 : St mX4_inSight 10 (.aload_n 0) 1 11 := ⟨by decide +kernel, rfl⟩
theorem dX4_inSight_11 : St mX4_inSight 11 (.getfield 31) 3 14 := ⟨by decide +kernel, rfl⟩
theorem dX4_inSight_14 : St mX4_inSight 14 (.getfield 93) 3 17 := ⟨by decide +kernel, rfl⟩
theorem dX4_inSight_17 : St mX4_inSight 17 (.iload_n 3) 1 18 := ⟨by decide +kernel, rfl⟩
theorem dX4_inSight_18 : St mX4_inSight 18 (.iaload) 1 19 := ⟨by decide +kernel, rfl⟩
theorem dX4_inSight_19 : St mX4_inSight 19 (.iconst 5) 1 20 := ⟨by decide +kernel, rfl⟩
theorem dX4_inSight_20 : St mX4_inSight 20 (.if_icmp .ge 15) 3 23 := ⟨by decide +kernel, rfl⟩
theorem dX4_inSight_23 : St mX4_inSight 23 (.iload_n 2) 1 24 := ⟨by decide +kernel, rfl⟩
theorem dX4_inSight_24 : St mX4_inSight 24 (.iconst 1) 1 25 := ⟨by decide +kernel, rfl⟩
theorem dX4_inSight_25 : St mX4_inSight 25 (.iload_n 3) 1 26 := ⟨by decide +kernel, rfl⟩
theorem dX4_inSight_26 : St mX4_inSight 26 (.ishl) 1 27 := ⟨by decide +kernel, rfl⟩
theorem dX4_inSight_27 : St mX4_inSight 27 (.ior) 1 28 := ⟨by decide +kernel, rfl⟩
theorem dX4_inSight_28 : St mX4_inSight 28 (.istore_n 2) 1 29 := ⟨by decide +kernel, rfl⟩
theorem dX4_inSight_29 : St mX4_inSight 29 (.iinc 3 (-1)) 3 32 := ⟨by decide +kernel, rfl⟩
theorem dX4_inSight_32 : St mX4_inSight 32 (.goto (-26)) 3 35 := ⟨by decide +kernel, rfl⟩
theorem dX4_inSight_35 : St mX4_inSight 35 (.iload_n 1) 1 36 := ⟨by decide +kernel, rfl⟩
theorem dX4_inSight_36 : St mX4_inSight 36 (.iconst 1) 1 37 := ⟨by decide +kernel, rfl⟩
theorem dX4_inSight_37 : St mX4_inSight 37 (.iadd) 1 38 := ⟨by decide +kernel, rfl⟩
theorem dX4_inSight_38 : St mX4_inSight 38 (.istore_n 3) 1 39 := ⟨by decide +kernel, rfl⟩
theorem dX4_inSight_39 : St mX4_inSight 39 (.iload_n 3) 1 40 := ⟨by decide +kernel, rfl⟩
theorem dX4_inSight_40 : St mX4_inSight 40 (.aload_n 0) 1 41 := ⟨by decide +kernel, rfl⟩
theorem dX4_inSight_41 : St mX4_inSight 41 (.getfield 18) 3 44 := ⟨by decide +kernel, rfl⟩
theorem dX4_inSight_44 : St mX4_inSight 44 (.if_icmp .ge 30) 3 47 := ⟨by decide +kernel, rfl⟩
theorem dX4_inSight_47 : St mX4_inSight 47 (.aload_n 0) 1 48 := ⟨by decide +kernel, rfl⟩
theorem dX4_inSight_48 : St mX4_inSight 48 (.getfield 31) 3 51 := ⟨by decide +kernel, rfl⟩
theorem dX4_inSight_51 : St mX4_inSight 51 (.getfield 93) 3 54 := ⟨by decide +kernel, rfl⟩
theorem dX4_inSight_54 : St mX4_inSight 54 (.iload_n 3) 1 55 := ⟨by decide +kernel, rfl⟩
theorem dX4_inSight_55 : St mX4_inSight 55 (.iconst 1) 1 56 := ⟨by decide +kernel, rfl⟩
theorem dX4_inSight_56 : St mX4_inSight 56 (.isub) 1 57 := ⟨by decide +kernel, rfl⟩
theorem dX4_inSight_57 : St mX4_inSight 57 (.iaload) 1 58 := ⟨by decide +kernel, rfl⟩
theorem dX4_inSight_58 : St mX4_inSight 58 (.iconst 5) 1 59 := ⟨by decide +kernel, rfl⟩
theorem dX4_inSight_59 : St mX4_inSight 59 (.if_icmp .ge 15) 3 62 := ⟨by decide +kernel, rfl⟩
theorem dX4_inSight_62 : St mX4_inSight 62 (.iload_n 2) 1 63 := ⟨by decide +kernel, rfl⟩
theorem dX4_inSight_63 : St mX4_inSight 63 (.iconst 1) 1 64 := ⟨by decide +kernel, rfl⟩
theorem dX4_inSight_64 : St mX4_inSight 64 (.iload_n 3) 1 65 := ⟨by decide +kernel, rfl⟩
theorem dX4_inSight_65 : St mX4_inSight 65 (.ishl) 1 66 := ⟨by decide +kernel, rfl⟩
theorem dX4_inSight_66 : St mX4_inSight 66 (.ior) 1 67 := ⟨by decide +kernel, rfl⟩
theorem dX4_inSight_67 : St mX4_inSight 67 (.istore_n 2) 1 68 := ⟨by decide +kernel, rfl⟩
theorem dX4_inSight_68 : St mX4_inSight 68 (.iinc 3 1) 3 71 := ⟨by decide +kernel, rfl⟩
theorem dX4_inSight_71 : St mX4_inSight 71 (.goto (-32)) 3 74 := ⟨by decide +kernel, rfl⟩
theorem dX4_inSight_74 : St mX4_inSight 74 (.iload_n 2) 1 75 := ⟨by decide +kernel, rfl⟩
theorem dX4_inSight_75 : St mX4_inSight 75 (.ireturn) 1 76 := ⟨by decide +kernel, rfl⟩
theorem dX4_openToApology_0 : St mX4_openToApology 0 (.iconst 0) 1 1 := ⟨by decide +kernel, rfl⟩
theorem dX4_openToApology_1 : St mX4_openToApology 1 (.istore_n 1) 1 2 := ⟨by decide +kernel, rfl⟩
theorem dX4_openToApology_2 : St mX4_openToApology 2 (.iconst 0) 1 3 := ⟨by decide +kernel, rfl⟩
theorem dX4_openToApology_3 : St mX4_openToApology 3 (.istore_n 2) 1 4 := ⟨by decide +kernel, rfl⟩
theorem dX4_openToApology_4 : St mX4_openToApology 4 (.iload_n 2) 1 5 := ⟨by decide +kernel, rfl⟩
theorem dX4_openToApology_5 : St mX4_openToApology 5 (.aload_n 0) 1 6 := ⟨by decide +kernel, rfl⟩
theorem dX4_openToApology_6 : St mX4_openToApology 6 (.invokevirtual 62) 3 9 := ⟨by decide +kernel, rfl⟩
theorem dX4_openToApology_9 : St mX4_openToApology 9 (.if_icmp .ge 26) 3 12 := ⟨by decide +kernel, rfl⟩
theorem dX4_openToApology_12 : St mX4_openToApology 12 (.aload_n 0) 1 13 := ⟨by decide +kernel, rfl⟩
theorem dX4_openToApology_13 : St mX4_openToApology 13 (.getfield 31) 3 16 := ⟨by decide +kernel, rfl⟩
theorem dX4_openToApology_16 : St mX4_openToApology 16 (.iload_n 2) 1 17 := ⟨by decide +kernel, rfl⟩
theorem dX4_openToApology_17 : St mX4_openToApology 17 (.invokevirtual 105) 3 20 := ⟨by decide +kernel, rfl⟩
theorem dX4_openToApology_20 : St mX4_openToApology 20 (.ifCond .ne 9) 3 23 := ⟨by decide +kernel, rfl⟩
theorem dX4_openToApology_23 : St mX4_openToApology 23 (.iload_n 1) 1 24 := ⟨by decide +kernel, rfl⟩
theorem dX4_openToApology_24 : St mX4_openToApology 24 (.iconst 1) 1 25 := ⟨by decide +kernel, rfl⟩
theorem dX4_openToApology_25 : St mX4_openToApology 25 (.iload_n 2) 1 26 := ⟨by decide +kernel, rfl⟩
theorem dX4_openToApology_26 : St mX4_openToApology 26 (.ishl) 1 27 := ⟨by decide +kernel, rfl⟩
theorem dX4_openToApology_27 : St mX4_openToApology 27 (.ior) 1 28 := ⟨by decide +kernel, rfl⟩
theorem dX4_openToApology_28 : St mX4_openToApology 28 (.istore_n 1) 1 29 := ⟨by decide +kernel, rfl⟩
theorem dX4_openToApology_29 : St mX4_openToApology 29 (.iinc 2 1) 3 32 := ⟨by decide +kernel, rfl⟩
theorem dX4_openToApology_32 : St mX4_openToApology 32 (.goto (-28)) 3 35 := ⟨by decide +kernel, rfl⟩
theorem dX4_openToApology_35 : St mX4_openToApology 35 (.iload_n 1) 1 36 := ⟨by decide +kernel, rfl⟩
theorem dX4_openToApology_36 : St mX4_openToApology 36 (.ireturn) 1 37 := ⟨by decide +kernel, rfl⟩
theorem dX4_weeksToMichaelmas_0 : St mX4_weeksToMichaelmas 0 (.aload_n 0) 1 1 := ⟨by decide +kernel, rfl⟩
theorem dX4_weeksToMichaelmas_1 : St mX4_weeksToMichaelmas 1 (.getfield 22) 3 4 := ⟨by decide +kernel, rfl⟩
theorem dX4_weeksToMichaelmas_4 : St mX4_weeksToMichaelmas 4 (.ifCond .gt 7) 3 7 := ⟨by decide +kernel, rfl⟩
theorem dX4_weeksToMichaelmas_7 : St mX4_weeksToMichaelmas 7 (.iconst 1) 1 8 := ⟨by decide +kernel, rfl⟩
theorem dX4_weeksToMichaelmas_8 : St mX4_weeksToMichaelmas 8 (.goto 20) 3 11 := ⟨by decide +kernel, rfl⟩
theorem dX4_weeksToMichaelmas_11 : St mX4_weeksToMichaelmas 11 (.aload_n 0) 1 12 := ⟨by decide +kernel, rfl⟩
theorem dX4_weeksToMichaelmas_12 : St mX4_weeksToMichaelmas 12 (.getfield 22) 3 15 := ⟨by decide +kernel, rfl⟩
theorem dX4_weeksToMichaelmas_15 : St mX4_weeksToMichaelmas 15 (.aload_n 0) 1 16 := ⟨by decide +kernel, rfl⟩
theorem dX4_weeksToMichaelmas_16 : St mX4_weeksToMichaelmas 16 (.getfield 31) 3 19 := ⟨by decide +kernel, rfl⟩
theorem dX4_weeksToMichaelmas_19 : St mX4_weeksToMichaelmas 19 (.getfield 79) 3 22 := ⟨by decide +kernel, rfl⟩
theorem dX4_weeksToMichaelmas_22 : St mX4_weeksToMichaelmas 22 (.aload_n 0) 1 23 := ⟨by decide +kernel, rfl⟩
theorem dX4_weeksToMichaelmas_23 : St mX4_weeksToMichaelmas 23 (.getfield 22) 3 26 := ⟨by decide +kernel, rfl⟩
theorem dX4_weeksToMichaelmas_26 : St mX4_weeksToMichaelmas 26 (.irem) 1 27 := ⟨by decide +kernel, rfl⟩
theorem dX4_weeksToMichaelmas_27 : St mX4_weeksToMichaelmas 27 (.isub) 1 28 := ⟨by decide +kernel, rfl⟩
theorem dX4_weeksToMichaelmas_28 : St mX4_weeksToMichaelmas 28 (.ireturn) 1 29 := ⟨by decide +kernel, rfl⟩
theorem dX4_passWeek_0 : St mX4_passWeek 0 (.iconst 0) 1 1 := ⟨by decide +kernel, rfl⟩
theorem dX4_passWeek_1 : St mX4_passWeek 1 (.istore_n 1) 1 2 := ⟨by decide +kernel, rfl⟩
theorem dX4_passWeek_2 : St mX4_passWeek 2 (.iload_n 1) 1 3 := ⟨by decide +kernel, rfl⟩
theorem dX4_passWeek_3 : St mX4_passWeek 3 (.aload_n 0) 1 4 := ⟨by decide +kernel, rfl⟩
theorem dX4_passWeek_4 : St mX4_passWeek 4 (.invokevirtual 62) 3 7 := ⟨by decide +kernel, rfl⟩
theorem dX4_passWeek_7 : St mX4_passWeek 7 (.if_icmp .ge 29) 3 10 := ⟨by decide +kernel, rfl⟩
theorem dX4_passWeek_10 : St mX4_passWeek 10 (.aload_n 0) 1 11 := ⟨by decide +kernel, rfl⟩
theorem dX4_passWeek_11 : St mX4_passWeek 11 (.iload_n 1) 1 12 := ⟨by decide +kernel, rfl⟩
theorem dX4_passWeek_12 : St mX4_passWeek 12 (.aload_n 0) 1 13 := ⟨by decide +kernel, rfl⟩
theorem dX4_passWeek_13 : St mX4_passWeek 13 (.iload_n 1) 1 14 := ⟨by decide +kernel, rfl⟩
theorem dX4_passWeek_14 : St mX4_passWeek 14 (.aload_n 0) 1 15 := ⟨by decide +kernel, rfl⟩
theorem dX4_passWeek_15 : St mX4_passWeek 15 (.getfield 31) 3 18 := ⟨by decide +kernel, rfl⟩
theorem dX4_passWeek_18 : St mX4_passWeek 18 (.getfield 93) 3 21 := ⟨by decide +kernel, rfl⟩
theorem dX4_passWeek_21 : St mX4_passWeek 21 (.iload_n 1) 1 22 := ⟨by decide +kernel, rfl⟩
theorem dX4_passWeek_22 : St mX4_passWeek 22 (.iaload) 1 23 := ⟨by decide +kernel, rfl⟩
theorem dX4_passWeek_23 : St mX4_passWeek 23 (.invokevirtual 109) 3 26 := ⟨by decide +kernel, rfl⟩
theorem dX4_passWeek_26 : St mX4_passWeek 26 (.invokevirtual 112) 3 29 := ⟨by decide +kernel, rfl⟩
theorem dX4_passWeek_29 : St mX4_passWeek 29 (.pop) 1 30 := ⟨by decide +kernel, rfl⟩
theorem dX4_passWeek_30 : St mX4_passWeek 30 (.iinc 1 1) 3 33 := ⟨by decide +kernel, rfl⟩
theorem dX4_passWeek_33 : St mX4_passWeek 33 (.goto (-31)) 3 36 := ⟨by decide +kernel, rfl⟩
theorem dX4_passWeek_36 : St mX4_passWeek 36 (.aload_n 0) 1 37 := ⟨by decide +kernel, rfl⟩
theorem dX4_passWeek_37 : St mX4_passWeek 37 (.invokevirtual 115) 3 40 := ⟨by decide +kernel, rfl⟩
theorem dX4_passWeek_40 : St mX4_passWeek 40 (.iconst 1) 1 41 := ⟨by decide +kernel, rfl⟩
theorem dX4_passWeek_41 : St mX4_passWeek 41 (.if_icmp .ne 7) 3 44 := ⟨by decide +kernel, rfl⟩
theorem dX4_passWeek_44 : St mX4_passWeek 44 (.iconst 1) 1 45 := ⟨by decide +kernel, rfl⟩
theorem dX4_passWeek_45 : St mX4_passWeek 45 (.goto 4) 3 48 := ⟨by decide +kernel, rfl⟩
theorem dX4_passWeek_48 : St mX4_passWeek 48 (.iconst 0) 1 49 := ⟨by decide +kernel, rfl⟩
theorem dX4_passWeek_49 : St mX4_passWeek 49 (.istore_n 1) 1 50 := ⟨by decide +kernel, rfl⟩
theorem dX4_passWeek_50 : St mX4_passWeek 50 (.aload_n 0) 1 51 := ⟨by decide +kernel, rfl⟩
theorem dX4_passWeek_51 : St mX4_passWeek 51 (.getfield 31) 3 54 := ⟨by decide +kernel, rfl⟩
theorem dX4_passWeek_54 : St mX4_passWeek 54 (.dup) 1 55 := ⟨by decide +kernel, rfl⟩
theorem dX4_passWeek_55 : St mX4_passWeek 55 (.getfield 79) 3 58 := ⟨by decide +kernel, rfl⟩
theorem dX4_passWeek_58 : St mX4_passWeek 58 (.iconst 1) 1 59 := ⟨by decide +kernel, rfl⟩
theorem dX4_passWeek_59 : St mX4_passWeek 59 (.iadd) 1 60 := ⟨by decide +kernel, rfl⟩
theorem dX4_passWeek_60 : St mX4_passWeek 60 (.putfield 79) 3 63 := ⟨by decide +kernel, rfl⟩
theorem dX4_passWeek_63 : St mX4_passWeek 63 (.iconst 0) 1 64 := ⟨by decide +kernel, rfl⟩
theorem dX4_passWeek_64 : St mX4_passWeek 64 (.istore_n 2) 1 65 := ⟨by decide +kernel, rfl⟩
theorem dX4_passWeek_65 : St mX4_passWeek 65 (.iload_n 1) 1 66 := ⟨by decide +kernel, rfl⟩
theorem dX4_passWeek_66 : St mX4_passWeek 66 (.ifCond .eq 22) 3 69 := ⟨by decide +kernel, rfl⟩
theorem dX4_passWeek_69 : St mX4_passWeek 69 (.iload_n 2) 1 70 := ⟨by decide +kernel, rfl⟩
theorem dX4_passWeek_70 : St mX4_passWeek 70 (.aload_n 0) 1 71 := ⟨by decide +kernel, rfl⟩
theorem dX4_passWeek_71 : St mX4_passWeek 71 (.invokevirtual 62) 3 74 := ⟨by decide +kernel, rfl⟩
theorem dX4_passWeek_74 : St mX4_passWeek 74 (.if_icmp .ge 14) 3 77 := ⟨by decide +kernel, rfl⟩
theorem dX4_passWeek_77 : St mX4_passWeek 77 (.aload_n 0) 1 78 := ⟨by decide +kernel, rfl⟩
theorem dX4_passWeek_78 : St mX4_passWeek 78 (.iload_n 2) 1 79 := ⟨by decide +kernel, rfl⟩
theorem dX4_passWeek_79 : St mX4_passWeek 79 (.invokevirtual 118) 3 82 := ⟨by decide +kernel, rfl⟩
theorem dX4_passWeek_82 : St mX4_passWeek 82 (.iinc 2 1) 3 85 := ⟨by decide +kernel, rfl⟩
theorem dX4_passWeek_85 : St mX4_passWeek 85 (.goto (-20)) 3 88 := ⟨by decide +kernel, rfl⟩
theorem dX4_passWeek_88 : St mX4_passWeek 88 (.return_) 1 89 := ⟨by decide +kernel, rfl⟩
theorem dX4_assess_0 : St mX4_assess 0 (.aload_n 0) 1 1 := ⟨by decide +kernel, rfl⟩
theorem dX4_assess_1 : St mX4_assess 1 (.getfield 31) 3 4 := ⟨by decide +kernel, rfl⟩
theorem dX4_assess_4 : St mX4_assess 4 (.getfield 89) 3 7 := ⟨by decide +kernel, rfl⟩
theorem dX4_assess_7 : St mX4_assess 7 (.iload_n 1) 1 8 := ⟨by decide +kernel, rfl⟩
theorem dX4_assess_8 : St mX4_assess 8 (.iaload) 1 9 := ⟨by decide +kernel, rfl⟩
theorem dX4_assess_9 : St mX4_assess 9 (.invokestatic 121) 3 12 := ⟨by decide +kernel, rfl⟩
theorem dX4_assess_12 : St mX4_assess 12 (.aload_n 0) 1 13 := ⟨by decide +kernel, rfl⟩
theorem dX4_assess_13 : St mX4_assess 13 (.getfield 31) 3 16 := ⟨by decide +kernel, rfl⟩
theorem dX4_assess_16 : St mX4_assess 16 (.getfield 93) 3 19 := ⟨by decide +kernel, rfl⟩
theorem dX4_assess_19 : St mX4_assess 19 (.iload_n 1) 1 20 := ⟨by decide +kernel, rfl⟩
theorem dX4_assess_20 : St mX4_assess 20 (.iaload) 1 21 := ⟨by decide +kernel, rfl⟩
theorem dX4_assess_21 : St mX4_assess 21 (.isub) 1 22 := ⟨by decide +kernel, rfl⟩
theorem dX4_assess_22 : St mX4_assess 22 (.istore_n 2) 1 23 := ⟨by decide +kernel, rfl⟩
theorem dX4_assess_23 : St mX4_assess 23 (.iload_n 2) 1 24 := ⟨by decide +kernel, rfl⟩
theorem dX4_assess_24 : St mX4_assess 24 (.ifCond .le 9) 3 27 := ⟨by decide +kernel, rfl⟩
theorem dX4_assess_27 : St mX4_assess 27 (.iconst 2) 1 28 := ⟨by decide +kernel, rfl⟩
theorem dX4_assess_28 : St mX4_assess 28 (.iload_n 2) 1 29 := ⟨by decide +kernel, rfl⟩
theorem dX4_assess_29 : St mX4_assess 29 (.imul) 1 30 := ⟨by decide +kernel, rfl⟩
theorem dX4_assess_30 : St mX4_assess 30 (.goto 5) 3 33 := ⟨by decide +kernel, rfl⟩
theorem dX4_assess_33 : St mX4_assess 33 (.iload_n 2) 1 34 := ⟨by decide +kernel, rfl⟩
theorem dX4_assess_34 : St mX4_assess 34 (.ineg) 1 35 := ⟨by decide +kernel, rfl⟩
theorem dX4_assess_35 : St mX4_assess 35 (.istore_n 3) 1 36 := ⟨by decide +kernel, rfl⟩
theorem dX4_assess_36 : St mX4_assess 36 (.aload_n 0) 1 37 := ⟨by decide +kernel, rfl⟩
theorem dX4_assess_37 : St mX4_assess 37 (.getfield 31) 3 40 := ⟨by decide +kernel, rfl⟩
theorem dX4_assess_40 : St mX4_assess 40 (.getfield 93) 3 43 := ⟨by decide +kernel, rfl⟩
theorem dX4_assess_43 : St mX4_assess 43 (.iload_n 1) 1 44 := ⟨by decide +kernel, rfl⟩
theorem dX4_assess_44 : St mX4_assess 44 (.dup2) 1 45 := ⟨by decide +kernel, rfl⟩
theorem dX4_assess_45 : St mX4_assess 45 (.iaload) 1 46 := ⟨by decide +kernel, rfl⟩
theorem dX4_assess_46 : St mX4_assess 46 (.iload_n 2) 1 47 := ⟨by decide +kernel, rfl⟩
theorem dX4_assess_47 : St mX4_assess 47 (.iadd) 1 48 := ⟨by decide +kernel, rfl⟩
theorem dX4_assess_48 : St mX4_assess 48 (.iastore) 1 49 := ⟨by decide +kernel, rfl⟩
theorem dX4_assess_49 : St mX4_assess 49 (.aload_n 0) 1 50 := ⟨by decide +kernel, rfl⟩
theorem dX4_assess_50 : St mX4_assess 50 (.getfield 31) 3 53 := ⟨by decide +kernel, rfl⟩
theorem dX4_assess_53 : St mX4_assess 53 (.getfield 66) 3 56 := ⟨by decide +kernel, rfl⟩
theorem dX4_assess_56 : St mX4_assess 56 (.iload_n 1) 1 57 := ⟨by decide +kernel, rfl⟩
theorem dX4_assess_57 : St mX4_assess 57 (.dup2) 1 58 := ⟨by decide +kernel, rfl⟩
theorem dX4_assess_58 : St mX4_assess 58 (.iaload) 1 59 := ⟨by decide +kernel, rfl⟩
theorem dX4_assess_59 : St mX4_assess 59 (.iload_n 3) 1 60 := ⟨by decide +kernel, rfl⟩
theorem dX4_assess_60 : St mX4_assess 60 (.iadd) 1 61 := ⟨by decide +kernel, rfl⟩
theorem dX4_assess_61 : St mX4_assess 61 (.iastore) 1 62 := ⟨by decide +kernel, rfl⟩
theorem dX4_assess_62 : St mX4_assess 62 (.aload_n 0) 1 63 := ⟨by decide +kernel, rfl⟩
theorem dX4_assess_63 : St mX4_assess 63 (.getfield 31) 3 66 := ⟨by decide +kernel, rfl⟩
theorem dX4_assess_66 : St mX4_assess 66 (.getfield 66) 3 69 := ⟨by decide +kernel, rfl⟩
theorem dX4_assess_69 : St mX4_assess 69 (.iload_n 1) 1 70 := ⟨by decide +kernel, rfl⟩
theorem dX4_assess_70 : St mX4_assess 70 (.iconst 1) 1 71 := ⟨by decide +kernel, rfl⟩
theorem dX4_assess_71 : St mX4_assess 71 (.iadd) 1 72 := ⟨by decide +kernel, rfl⟩
theorem dX4_assess_72 : St mX4_assess 72 (.dup2) 1 73 := ⟨by decide +kernel, rfl⟩
theorem dX4_assess_73 : St mX4_assess 73 (.iaload) 1 74 := ⟨by decide +kernel, rfl⟩
theorem dX4_assess_74 : St mX4_assess 74 (.iload_n 3) 1 75 := ⟨by decide +kernel, rfl⟩
theorem dX4_assess_75 : St mX4_assess 75 (.iadd) 1 76 := ⟨by decide +kernel, rfl⟩
theorem dX4_assess_76 : St mX4_assess 76 (.iastore) 1 77 := ⟨by decide +kernel, rfl⟩
theorem dX4_assess_77 : St mX4_assess 77 (.return_) 1 78 := ⟨by decide +kernel, rfl⟩
theorem dX4_blow_0 : St mX4_blow 0 (.iconst 0) 1 1 := ⟨by decide +kernel, rfl⟩
theorem dX4_blow_1 : St mX4_blow 1 (.istore_n 1) 1 2 := ⟨by decide +kernel, rfl⟩
theorem dX4_blow_2 : St mX4_blow 2 (.iconst 0) 1 3 := ⟨by decide +kernel, rfl⟩
theorem dX4_blow_3 : St mX4_blow 3 (.istore_n 2) 1 4 := ⟨by decide +kernel, rfl⟩
theorem dX4_blow_4 : St mX4_blow 4 (.iload_n 2) 1 5 := ⟨by decide +kernel, rfl⟩
theorem dX4_blow_5 : St mX4_blow 5 (.aload_n 0) 1 6 := ⟨by decide +kernel, rfl⟩
theorem dX4_blow_6 : St mX4_blow 6 (.invokevirtual 62) 3 9 := ⟨by decide +kernel, rfl⟩
theorem dX4_blow_9 : St mX4_blow 9 (.if_icmp .ge 54) 3 12 := ⟨by decide +kernel, rfl⟩
theorem dX4_blow_12 : St mX4_blow 12 (.aload_n 0) 1 13 := ⟨by decide +kernel, rfl⟩
theorem dX4_blow_13 : St mX4_blow 13 (.getfield 31) 3 16 := ⟨by decide +kernel, rfl⟩
theorem dX4_blow_16 : St mX4_blow 16 (.getfield 93) 3 19 := ⟨by decide +kernel, rfl⟩
theorem dX4_blow_19 : St mX4_blow 19 (.iload_n 2) 1 20 := ⟨by decide +kernel, rfl⟩
theorem dX4_blow_20 : St mX4_blow 20 (.iaload) 1 21 := ⟨by decide +kernel, rfl⟩
theorem dX4_blow_21 : St mX4_blow 21 (.bipush 12) 2 23 := ⟨by decide +kernel, rfl⟩
theorem dX4_blow_23 : St mX4_blow 23 (.if_icmp .lt 34) 3 26 := ⟨by decide +kernel, rfl⟩
theorem dX4_blow_26 : St mX4_blow 26 (.aload_n 0) 1 27 := ⟨by decide +kernel, rfl⟩
theorem dX4_blow_27 : St mX4_blow 27 (.invokevirtual 124) 3 30 := ⟨by decide +kernel, rfl⟩
theorem dX4_blow_30 : St mX4_blow 30 (.ldc 127) 2 32 := ⟨by decide +kernel, rfl⟩
theorem dX4_blow_32 : St mX4_blow 32 (.idiv) 1 33 := ⟨by decide +kernel, rfl⟩
theorem dX4_blow_33 : St mX4_blow 33 (.bipush 100) 2 35 := ⟨by decide +kernel, rfl⟩
theorem dX4_blow_35 : St mX4_blow 35 (.irem) 1 36 := ⟨by decide +kernel, rfl⟩
theorem dX4_blow_36 : St mX4_blow 36 (.aload_n 0) 1 37 := ⟨by decide +kernel, rfl⟩
theorem dX4_blow_37 : St mX4_blow 37 (.getfield 31) 3 40 := ⟨by decide +kernel, rfl⟩
theorem dX4_blow_40 : St mX4_blow 40 (.getfield 93) 3 43 := ⟨by decide +kernel, rfl⟩
theorem dX4_blow_43 : St mX4_blow 43 (.iload_n 2) 1 44 := ⟨by decide +kernel, rfl⟩
theorem dX4_blow_44 : St mX4_blow 44 (.iaload) 1 45 := ⟨by decide +kernel, rfl⟩
theorem dX4_blow_45 : St mX4_blow 45 (.if_icmp .ge 12) 3 48 := ⟨by decide +kernel, rfl⟩
theorem dX4_blow_48 : St mX4_blow 48 (.aload_n 0) 1 49 := ⟨by decide +kernel, rfl⟩
theorem dX4_blow_49 : St mX4_blow 49 (.iload_n 2) 1 50 := ⟨by decide +kernel, rfl⟩
theorem dX4_blow_50 : St mX4_blow 50 (.invokevirtual 128) 3 53 := ⟨by decide +kernel, rfl⟩
theorem dX4_blow_53 : St mX4_blow 53 (.pop) 1 54 := ⟨by decide +kernel, rfl⟩
theorem dX4_blow_54 : St mX4_blow 54 (.iinc 1 1) 3 57 := ⟨by decide +kernel, rfl⟩
theorem dX4_blow_57 : St mX4_blow 57 (.iinc 2 1) 3 60 := ⟨by decide +kernel, rfl⟩
theorem dX4_blow_60 : St mX4_blow 60 (.goto (-56)) 3 63 := ⟨by decide +kernel, rfl⟩
theorem dX4_blow_63 : St mX4_blow 63 (.iload_n 1) 1 64 := ⟨by decide +kernel, rfl⟩
theorem dX4_blow_64 : St mX4_blow 64 (.ireturn) 1 65 := ⟨by decide +kernel, rfl⟩
theorem dX4_drawNext_0 : St mX4_drawNext 0 (.aload_n 0) 1 1 := ⟨by decide +kernel, rfl⟩
theorem dX4_drawNext_1 : St mX4_drawNext 1 (.getfield 31) 3 4 := ⟨by decide +kernel, rfl⟩
theorem dX4_drawNext_4 : St mX4_drawNext 4 (.aload_n 0) 1 5 := ⟨by decide +kernel, rfl⟩
theorem dX4_drawNext_5 : St mX4_drawNext 5 (.getfield 31) 3 8 := ⟨by decide +kernel, rfl⟩
theorem dX4_drawNext_8 : St mX4_drawNext 8 (.getfield 131) 3 11 := ⟨by decide +kernel, rfl⟩
theorem dX4_drawNext_11 : St mX4_drawNext 11 (.ldc 134) 2 13 := ⟨by decide +kernel, rfl⟩
theorem dX4_drawNext_13 : St mX4_drawNext 13 (.imul) 1 14 := ⟨by decide +kernel, rfl⟩
theorem dX4_drawNext_14 : St mX4_drawNext 14 (.sipush 12345) 3 17 := ⟨by decide +kernel, rfl⟩
theorem dX4_drawNext_17 : St mX4_drawNext 17 (.iadd) 1 18 := ⟨by decide +kernel, rfl⟩
theorem dX4_drawNext_18 : St mX4_drawNext 18 (.ldc 135) 2 20 := ⟨by decide +kernel, rfl⟩
theorem dX4_drawNext_20 : St mX4_drawNext 20 (.iand) 1 21 := ⟨by decide +kernel, rfl⟩
theorem dX4_drawNext_21 : St mX4_drawNext 21 (.putfield 131) 3 24 := ⟨by decide +kernel, rfl⟩
theorem dX4_drawNext_24 : St mX4_drawNext 24 (.aload_n 0) 1 25 := ⟨by decide +kernel, rfl⟩
theorem dX4_drawNext_25 : St mX4_drawNext 25 (.getfield 31) 3 28 := ⟨by decide +kernel, rfl⟩
theorem dX4_drawNext_28 : St mX4_drawNext 28 (.getfield 131) 3 31 := ⟨by decide +kernel, rfl⟩
theorem dX4_drawNext_31 : St mX4_drawNext 31 (.ireturn) 1 32 := ⟨by decide +kernel, rfl⟩
theorem dX4_vary_0 : St mX4_vary 0 (.aload_n 0) 1 1 := ⟨by decide +kernel, rfl⟩
theorem dX4_vary_1 : St mX4_vary 1 (.getfield 31) 3 4 := ⟨by decide +kernel, rfl⟩
theorem dX4_vary_4 : St mX4_vary 4 (.getfield 89) 3 7 := ⟨by decide +kernel, rfl⟩
theorem dX4_vary_7 : St mX4_vary 7 (.iload_n 1) 1 8 := ⟨by decide +kernel, rfl⟩
theorem dX4_vary_8 : St mX4_vary 8 (.aload_n 0) 1 9 := ⟨by decide +kernel, rfl⟩
theorem dX4_vary_9 : St mX4_vary 9 (.getfield 31) 3 12 := ⟨by decide +kernel, rfl⟩
theorem dX4_vary_12 : St mX4_vary 12 (.getfield 89) 3 15 := ⟨by decide +kernel, rfl⟩
theorem dX4_vary_15 : St mX4_vary 15 (.iload_n 1) 1 16 := ⟨by decide +kernel, rfl⟩
theorem dX4_vary_16 : St mX4_vary 16 (.iaload) 1 17 := ⟨by decide +kernel, rfl⟩
theorem dX4_vary_17 : St mX4_vary 17 (.iload_n 2) 1 18 := ⟨by decide +kernel, rfl⟩
theorem dX4_vary_18 : St mX4_vary 18 (.iadd) 1 19 := ⟨by decide +kernel, rfl⟩
theorem dX4_vary_19 : St mX4_vary 19 (.invokestatic 136) 3 22 := ⟨by decide +kernel, rfl⟩
theorem dX4_vary_22 : St mX4_vary 22 (.iastore) 1 23 := ⟨by decide +kernel, rfl⟩
theorem dX4_vary_23 : St mX4_vary 23 (.aload_n 0) 1 24 := ⟨by decide +kernel, rfl⟩
theorem dX4_vary_24 : St mX4_vary 24 (.getfield 31) 3 27 := ⟨by decide +kernel, rfl⟩
theorem dX4_vary_27 : St mX4_vary 27 (.getfield 89) 3 30 := ⟨by decide +kernel, rfl⟩
theorem dX4_vary_30 : St mX4_vary 30 (.iload_n 1) 1 31 := ⟨by decide +kernel, rfl⟩
theorem dX4_vary_31 : St mX4_vary 31 (.iaload) 1 32 := ⟨by decide +kernel, rfl⟩
theorem dX4_vary_32 : St mX4_vary 32 (.ireturn) 1 33 := ⟨by decide +kernel, rfl⟩
theorem dX4_apologise_0 : St mX4_apologise 0 (.aload_n 0) 1 1 := ⟨by decide +kernel, rfl⟩
theorem dX4_apologise_1 : St mX4_apologise 1 (.getfield 31) 3 4 := ⟨by decide +kernel, rfl⟩
theorem dX4_apologise_4 : St mX4_apologise 4 (.getfield 89) 3 7 := ⟨by decide +kernel, rfl⟩
theorem dX4_apologise_7 : St mX4_apologise 7 (.iload_n 1) 1 8 := ⟨by decide +kernel, rfl⟩
theorem dX4_apologise_8 : St mX4_apologise 8 (.aload_n 0) 1 9 := ⟨by decide +kernel, rfl⟩
theorem dX4_apologise_9 : St mX4_apologise 9 (.getfield 31) 3 12 := ⟨by decide +kernel, rfl⟩
theorem dX4_apologise_12 : St mX4_apologise 12 (.getfield 89) 3 15 := ⟨by decide +kernel, rfl⟩
theorem dX4_apologise_15 : St mX4_apologise 15 (.iload_n 1) 1 16 := ⟨by decide +kernel, rfl⟩
theorem dX4_apologise_16 : St mX4_apologise 16 (.iaload) 1 17 := ⟨by decide +kernel, rfl⟩
theorem dX4_apologise_17 : St mX4_apologise 17 (.invokestatic 139) 3 20 := ⟨by decide +kernel, rfl⟩
theorem dX4_apologise_20 : St mX4_apologise 20 (.iastore) 1 21 := ⟨by decide +kernel, rfl⟩
theorem dX4_apologise_21 : St mX4_apologise 21 (.aload_n 0) 1 22 := ⟨by decide +kernel, rfl⟩
theorem dX4_apologise_22 : St mX4_apologise 22 (.getfield 31) 3 25 := ⟨by decide +kernel, rfl⟩
theorem dX4_apologise_25 : St mX4_apologise 25 (.getfield 142) 3 28 := ⟨by decide +kernel, rfl⟩
theorem dX4_apologise_28 : St mX4_apologise 28 (.iload_n 1) 1 29 := ⟨by decide +kernel, rfl⟩
theorem dX4_apologise_29 : St mX4_apologise 29 (.aload_n 0) 1 30 := ⟨by decide +kernel, rfl⟩
theorem dX4_apologise_30 : St mX4_apologise 30 (.getfield 31) 3 33 := ⟨by decide +kernel, rfl⟩
theorem dX4_apologise_33 : St mX4_apologise 33 (.getfield 79) 3 36 := ⟨by decide +kernel, rfl⟩
theorem dX4_apologise_36 : St mX4_apologise 36 (.iconst 3) 1 37 := ⟨by decide +kernel, rfl⟩
theorem dX4_apologise_37 : St mX4_apologise 37 (.iadd) 1 38 := ⟨by decide +kernel, rfl⟩
theorem dX4_apologise_38 : St mX4_apologise 38 (.iastore) 1 39 := ⟨by decide +kernel, rfl⟩
theorem dX4_apologise_39 : St mX4_apologise 39 (.aload_n 0) 1 40 := ⟨by decide +kernel, rfl⟩
theorem dX4_apologise_40 : St mX4_apologise 40 (.getfield 31) 3 43 := ⟨by decide +kernel, rfl⟩
theorem dX4_apologise_43 : St mX4_apologise 43 (.getfield 89) 3 46 := ⟨by decide +kernel, rfl⟩
theorem dX4_apologise_46 : St mX4_apologise 46 (.iload_n 1) 1 47 := ⟨by decide +kernel, rfl⟩
theorem dX4_apologise_47 : St mX4_apologise 47 (.iaload) 1 48 := ⟨by decide +kernel, rfl⟩
theorem dX4_apologise_48 : St mX4_apologise 48 (.ireturn) 1 49 := ⟨by decide +kernel, rfl⟩
theorem dX4_collapse_0 : St mX4_collapse 0 (.aload_n 0) 1 1 := ⟨by decide +kernel, rfl⟩
theorem dX4_collapse_1 : St mX4_collapse 1 (.getfield 31) 3 4 := ⟨by decide +kernel, rfl⟩
theorem dX4_collapse_4 : St mX4_collapse 4 (.getfield 93) 3 7 := ⟨by decide +kernel, rfl⟩
theorem dX4_collapse_7 : St mX4_collapse 7 (.iload_n 1) 1 8 := ⟨by decide +kernel, rfl⟩
theorem dX4_collapse_8 : St mX4_collapse 8 (.iaload) 1 9 := ⟨by decide +kernel, rfl⟩
theorem dX4_collapse_9 : St mX4_collapse 9 (.istore_n 2) 1 10 := ⟨by decide +kernel, rfl⟩
theorem dX4_collapse_10 : St mX4_collapse 10 (.aload_n 0) 1 11 := ⟨by decide +kernel, rfl⟩
theorem dX4_collapse_11 : St mX4_collapse 11 (.getfield 31) 3 14 := ⟨by decide +kernel, rfl⟩
theorem dX4_collapse_14 : St mX4_collapse 14 (.getfield 93) 3 17 := ⟨by decide +kernel, rfl⟩
theorem dX4_collapse_17 : St mX4_collapse 17 (.iload_n 1) 1 18 := ⟨by decide +kernel, rfl⟩
theorem dX4_collapse_18 : St mX4_collapse 18 (.iconst 0) 1 19 := ⟨by decide +kernel, rfl⟩
theorem dX4_collapse_19 : St mX4_collapse 19 (.iastore) 1 20 := ⟨by decide +kernel, rfl⟩
theorem dX4_collapse_20 : St mX4_collapse 20 (.aload_n 0) 1 21 := ⟨by decide +kernel, rfl⟩
theorem dX4_collapse_21 : St mX4_collapse 21 (.iload_n 1) 1 22 := ⟨by decide +kernel, rfl⟩
theorem dX4_collapse_22 : St mX4_collapse 22 (.iconst 5) 1 23 := ⟨by decide +kernel, rfl⟩
theorem dX4_collapse_23 : St mX4_collapse 23 (.invokevirtual 112) 3 26 := ⟨by decide +kernel, rfl⟩
theorem dX4_collapse_26 : St mX4_collapse 26 (.pop) 1 27 := ⟨by decide +kernel, rfl⟩
theorem dX4_collapse_27 : St mX4_collapse 27 (.iload_n 2) 1 28 := ⟨by decide +kernel, rfl⟩
theorem dX4_collapse_28 : St mX4_collapse 28 (.ireturn) 1 29 := ⟨by decide +kernel, rfl⟩
theorem dX5_init_0 : St mX5_init 0 (.aload_n 0) 1 1 := ⟨by decide +kernel, rfl⟩
theorem dX5_init_1 : St mX5_init 1 (.invokespecial 3) 3 4 := ⟨by decide +kernel, rfl⟩
theorem dX5_init_4 : St mX5_init 4 (.aload_n 0) 1 5 := ⟨by decide +kernel, rfl⟩
theorem dX5_init_5 : St mX5_init 5 (.bipush 60) 2 7 := ⟨by decide +kernel, rfl⟩
theorem dX5_init_7 : St mX5_init 7 (.newarray .char) 2 9 := ⟨by decide +kernel, rfl⟩
theorem dX5_init_9 : St mX5_init 9 (.putfield 9) 3 12 := ⟨by decide +kernel, rfl⟩
theorem dX5_init_12 : St mX5_init 12 (.aload_n 0) 1 13 := ⟨by decide +kernel, rfl⟩
theorem dX5_init_13 : St mX5_init 13 (.iconst 0) 1 14 := ⟨by decide +kernel, rfl⟩
theorem dX5_init_14 : St mX5_init 14 (.putfield 15) 3 17 := ⟨by decide +kernel, rfl⟩
theorem dX5_init_17 : St mX5_init 17 (.aload_n 0) 1 18 := ⟨by decide +kernel, rfl⟩
theorem dX5_init_18 : St mX5_init 18 (.bipush 6) 2 20 := ⟨by decide +kernel, rfl⟩
theorem dX5_init_20 : St mX5_init 20 (.newarray .int) 2 22 := ⟨by decide +kernel, rfl⟩
theorem dX5_init_22 : St mX5_init 22 (.putfield 19) 3 25 := ⟨by decide +kernel, rfl⟩
theorem dX5_init_25 : St mX5_init 25 (.aload_n 0) 1 26 := ⟨by decide +kernel, rfl⟩
theorem dX5_init_26 : St mX5_init 26 (.bipush 6) 2 28 := ⟨by decide +kernel, rfl⟩
theorem dX5_init_28 : St mX5_init 28 (.newarray .int) 2 30 := ⟨by decide +kernel, rfl⟩
theorem dX5_init_30 : St mX5_init 30 (.putfield 23) 3 33 := ⟨by decide +kernel, rfl⟩
theorem dX5_init_33 : St mX5_init 33 (.aload_n 0) 1 34 := ⟨by decide +kernel, rfl⟩
theorem dX5_init_34 : St mX5_init 34 (.iconst 5) 1 35 := ⟨by decide +kernel, rfl⟩
theorem dX5_init_35 : St mX5_init 35 (.newarray .int) 2 37 := ⟨by decide +kernel, rfl⟩
theorem dX5_init_37 : St mX5_init 37 (.putfield 26) 3 40 := ⟨by decide +kernel, rfl⟩
theorem dX5_init_40 : St mX5_init 40 (.aload_n 0) 1 41 := ⟨by decide +kernel, rfl⟩
theorem dX5_init_41 : St mX5_init 41 (.iconst 0) 1 42 := ⟨by decide +kernel, rfl⟩
theorem dX5_init_42 : St mX5_init 42 (.putfield 29) 3 45 := ⟨by decide +kernel, rfl⟩
theorem dX5_init_45 : St mX5_init 45 (.aload_n 0) 1 46 := ⟨by decide +kernel, rfl⟩
theorem dX5_init_46 : St mX5_init 46 (.iconst 2) 1 47 := ⟨by decide +kernel, rfl⟩
theorem dX5_init_47 : St mX5_init 47 (.putfield 32) 3 50 := ⟨by decide +kernel, rfl⟩
theorem dX5_init_50 : St mX5_init 50 (.aload_n 0) 1 51 := ⟨by decide +kernel, rfl⟩
theorem dX5_init_51 : St mX5_init 51 (.iconst 0) 1 52 := ⟨by decide +kernel, rfl⟩
theorem dX5_init_52 : St mX5_init 52 (.putfield 35) 3 55 := ⟨by decide +kernel, rfl⟩
theorem dX5_init_55 : St mX5_init 55 (.return_) 1 56 := ⟨by decide +kernel, rfl⟩
theorem dX5_write_0 : St mX5_write 0 (.aload_n 0) 1 1 := ⟨by decide +kernel, rfl⟩
theorem dX5_write_1 : St mX5_write 1 (.getfield 9) 3 4 := ⟨by decide +kernel, rfl⟩
theorem dX5_write_4 : St mX5_write 4 (.aload_n 0) 1 5 := ⟨by decide +kernel, rfl⟩
theorem dX5_write_5 : St mX5_write 5 (.getfield 15) 3 8 := ⟨by decide +kernel, rfl⟩
theorem dX5_write_8 : St mX5_write 8 (.iload_n 1) 1 9 := ⟨by decide +kernel, rfl⟩
theorem dX5_write_9 : St mX5_write 9 (.castore) 1 10 := ⟨by decide +kernel, rfl⟩
theorem dX5_write_10 : St mX5_write 10 (.aload_n 0) 1 11 := ⟨by decide +kernel, rfl⟩
theorem dX5_write_11 : St mX5_write 11 (.dup) 1 12 := ⟨by decide +kernel, rfl⟩
theorem dX5_write_12 : St mX5_write 12 (.getfield 15) 3 15 := ⟨by decide +kernel, rfl⟩
theorem dX5_write_15 : St mX5_write 15 (.iconst 1) 1 16 := ⟨by decide +kernel, rfl⟩
theorem dX5_write_16 : St mX5_write 16 (.iadd) 1 17 := ⟨by decide +kernel, rfl⟩
theorem dX5_write_17 : St mX5_write 17 (.putfield 15) 3 20 := ⟨by decide +kernel, rfl⟩
theorem dX5_write_20 : St mX5_write 20 (.aload_n 0) 1 21 := ⟨by decide +kernel, rfl⟩
theorem dX5_write_21 : St mX5_write 21 (.getfield 15) 3 24 := ⟨by decide +kernel, rfl⟩
theorem dX5_write_24 : St mX5_write 24 (.ireturn) 1 25 := ⟨by decide +kernel, rfl⟩
theorem dX5_parse_0 : St mX5_parse 0 (.aload_n 0) 1 1 := ⟨by decide +kernel, rfl⟩
theorem dX5_parse_1 : St mX5_parse 1 (.iconst 0) 1 2 := ⟨by decide +kernel, rfl⟩
theorem dX5_parse_2 : St mX5_parse 2 (.putfield 35) 3 5 := ⟨by decide +kernel, rfl⟩
theorem dX5_parse_5 : St mX5_parse 5 (.aload_n 0) 1 6 := ⟨by decide +kernel, rfl⟩
theorem dX5_parse_6 : St mX5_parse 6 (.iconst 0) 1 7 := ⟨by decide +kernel, rfl⟩
theorem dX5_parse_7 : St mX5_parse 7 (.putfield 29) 3 10 := ⟨by decide +kernel, rfl⟩
theorem dX5_parse_10 : St mX5_parse 10 (.aload_n 0) 1 11 := ⟨by decide +kernel, rfl⟩
theorem dX5_parse_11 : St mX5_parse 11 (.invokevirtual 38) 3 14 := ⟨by decide +kernel, rfl⟩
theorem dX5_parse_14 : St mX5_parse 14 (.ifCond .eq 16) 3 17 := ⟨by decide +kernel, rfl⟩
theorem dX5_parse_17 : St mX5_parse 17 (.aload_n 0) 1 18 := ⟨by decide +kernel, rfl⟩
theorem dX5_parse_18 : St mX5_parse 18 (.bipush 59) 2 20 := ⟨by decide +kernel, rfl⟩
theorem dX5_parse_20 : St mX5_parse 20 (.invokevirtual 42) 3 23 := ⟨by decide +kernel, rfl⟩
theorem dX5_parse_23 : St mX5_parse 23 (.ifCond .eq 7) 3 26 := ⟨by decide +kernel, rfl⟩
theorem dX5_parse_26 : St mX5_parse 26 (.iconst 1) 1 27 := ⟨by decide +kernel, rfl⟩
theorem dX5_parse_27 : St mX5_parse 27 (.goto 4) 3 30 := ⟨by decide +kernel, rfl⟩
theorem dX5_parse_30 : St mX5_parse 30 (.iconst 0) 1 31 := ⟨by decide +kernel, rfl⟩
theorem dX5_parse_31 : St mX5_parse 31 (.istore_n 1) 1 32 := ⟨by decide +kernel, rfl⟩
theorem dX5_parse_32 : St mX5_parse 32 (.iload_n 1) 1 33 := ⟨by decide +kernel, rfl⟩
theorem dX5_parse_33 : St mX5_parse 33 (.ifCond .eq 75) 3 36 := ⟨by decide +kernel, rfl⟩
theorem dX5_parse_36 : St mX5_parse 36 (.aload_n 0) 1 37 := ⟨by decide +kernel, rfl⟩
theorem dX5_parse_37 : St mX5_parse 37 (.getfield 29) 3 40 := ⟨by decide +kernel, rfl⟩
theorem dX5_parse_40 : St mX5_parse 40 (.bipush 6) 2 42 := ⟨by decide +kernel, rfl⟩
theorem dX5_parse_42 : St mX5_parse 42 (.if_icmp .ge 66) 3 45 := ⟨by decide +kernel, rfl⟩
theorem dX5_parse_45 : St mX5_parse 45 (.aload_n 0) 1 46 := ⟨by decide +kernel, rfl⟩
theorem dX5_parse_46 : St mX5_parse 46 (.invokevirtual 46) 3 49 := ⟨by decide +kernel, rfl⟩
theorem dX5_parse_49 : St mX5_parse 49 (.ifCond .eq 59) 3 52 := ⟨by decide +kernel, rfl⟩
theorem dX5_parse_52 : St mX5_parse 52 (.aload_n 0) 1 53 := ⟨by decide +kernel, rfl⟩
theorem dX5_parse_53 : St mX5_parse 53 (.dup) 1 54 := ⟨by decide +kernel, rfl⟩
theorem dX5_parse_54 : St mX5_parse 54 (.getfield 29) 3 57 := ⟨by decide +kernel, rfl⟩
theorem dX5_parse_57 : St mX5_parse 57 (.iconst 1) 1 58 := ⟨by decide +kernel, rfl⟩
theorem dX5_parse_58 : St mX5_parse 58 (.iadd) 1 59 := ⟨by decide +kernel, rfl⟩
theorem dX5_parse_59 : St mX5_parse 59 (.putfield 29) 3 62 := ⟨by decide +kernel, rfl⟩
theorem dX5_parse_62 : St mX5_parse 62 (.aload_n 0) 1 63 := ⟨by decide +kernel, rfl⟩
theorem dX5_parse_63 : St mX5_parse 63 (.invokevirtual 49) 3 66 := ⟨by decide +kernel, rfl⟩
theorem dX5_parse_66 : St mX5_parse 66 (.ifCond .eq 8) 3 69 := ⟨by decide +kernel, rfl⟩
theorem dX5_parse_69 : St mX5_parse 69 (.aload_n 0) 1 70 := ⟨by decide +kernel, rfl⟩
theorem dX5_parse_70 : St mX5_parse 70 (.getfield 29) 3 73 := ⟨by decide +kernel, rfl⟩
theorem dX5_parse_73 : St mX5_parse 73 (.ireturn) 1 74 := ⟨by decide +kernel, rfl⟩
theorem dX5_parse_74 : St mX5_parse 74 (.aload_n 0) 1 75 := ⟨by decide +kernel, rfl⟩
theorem dX5_parse_75 : St mX5_parse 75 (.getfield 29) 3 78 := ⟨by decide +kernel, rfl⟩
theorem dX5_parse_78 : St mX5_parse 78 (.bipush 6) 2 80 := ⟨by decide +kernel, rfl⟩
theorem dX5_parse_80 : St mX5_parse 80 (.if_icmp .ge 23) 3 83 := ⟨by decide +kernel, rfl⟩
theorem dX5_parse_83 : St mX5_parse 83 (.aload_n 0) 1 84 := ⟨by decide +kernel, rfl⟩
theorem dX5_parse_84 : St mX5_parse 84 (.invokevirtual 52) 3 87 := ⟨by decide +kernel, rfl⟩
theorem dX5_parse_87 : St mX5_parse 87 (.ifCond .eq 16) 3 90 := ⟨by decide +kernel, rfl⟩
theorem dX5_parse_90 : St mX5_parse 90 (.aload_n 0) 1 91 := ⟨by decide +kernel, rfl⟩
theorem dX5_parse_91 : St mX5_parse 91 (.bipush 44) 2 93 := ⟨by decide +kernel, rfl⟩
theorem dX5_parse_93 : St mX5_parse 93 (.invokevirtual 42) 3 96 := ⟨by decide +kernel, rfl⟩
theorem dX5_parse_96 : St mX5_parse 96 (.ifCond .eq 7) 3 99 := ⟨by decide +kernel, rfl⟩
theorem dX5_parse_99 : St mX5_parse 99 (.iconst 1) 1 100 := ⟨by decide +kernel, rfl⟩
theorem dX5_parse_100 : St mX5_parse 100 (.goto 4) 3 103 := ⟨by decide +kernel, rfl⟩
theorem dX5_parse_103 : St mX5_parse 103 (.iconst 0) 1 104 := ⟨by decide +kernel, rfl⟩
theorem dX5_parse_104 : St mX5_parse 104 (.istore_n 1) 1 105 := ⟨by decide +kernel, rfl⟩
theorem dX5_parse_105 : St mX5_parse 105 (.goto (-73)) 3 108 := ⟨by decide +kernel, rfl⟩
theorem dX5_parse_108 : St mX5_parse 108 (.bipush (-20)) 2 110 := ⟨by decide +kernel, rfl⟩
theorem dX5_parse_110 : St mX5_parse 110 (.aload_n 0) 1 111 := ⟨by decide +kernel, rfl⟩
theorem dX5_parse_111 : St mX5_parse 111 (.getfield 35) 3 114 := ⟨by decide +kernel, rfl⟩
theorem dX5_parse_114 : St mX5_parse 114 (.isub) 1 115 := ⟨by decide +kernel, rfl⟩
theorem dX5_parse_115 : St mX5_parse 115 (.ireturn) 1 116 := ⟨by decide +kernel, rfl⟩
theorem dX5_atEnd_0 : St mX5_atEnd 0 (.aload_n 0) 1 1 := ⟨by decide +kernel, rfl⟩
theorem dX5_atEnd_1 : St mX5_atEnd 1 (.getfield 35) 3 4 := ⟨by decide +kernel, rfl⟩
theorem dX5_atEnd_4 : St mX5_atEnd 4 (.aload_n 0) 1 5 := ⟨by decide +kernel, rfl⟩
theorem dX5_atEnd_5 : St mX5_atEnd 5 (.getfield 15) 3 8 := ⟨by decide +kernel, rfl⟩
theorem dX5_atEnd_8 : St mX5_atEnd 8 (.if_icmp .ge 30) 3 11 := ⟨by decide +kernel, rfl⟩
theorem dX5_atEnd_11 : St mX5_atEnd 11 (.aload_n 0) 1 12 := ⟨by decide +kernel, rfl⟩
theorem dX5_atEnd_12 : St mX5_atEnd 12 (.getfield 9) 3 15 := ⟨by decide +kernel, rfl⟩
theorem dX5_atEnd_15 : St mX5_atEnd 15 (.aload_n 0) 1 16 := ⟨by decide +kernel, rfl⟩
theorem dX5_atEnd_16 : St mX5_atEnd 16 (.getfield 35) 3 19 := ⟨by decide +kernel, rfl⟩
theorem dX5_atEnd_19 : St mX5_atEnd 19 (.caload) 1 20 := ⟨by decide +kernel, rfl⟩
theorem dX5_atEnd_20 : St mX5_atEnd 20 (.bipush 32) 2 22 := ⟨by decide +kernel, rfl⟩
theorem dX5_atEnd_22 : St mX5_atEnd 22 (.if_icmp .ne 16) 3 25 := ⟨by decide +kernel, rfl⟩
theorem dX5_atEnd_25 : St mX5_atEnd 25 (.aload_n 0) 1 26 := ⟨by decide +kernel, rfl⟩
theorem dX5_atEnd_26 : St mX5_atEnd 26 (.dup) 1 27 := ⟨by decide +kernel, rfl⟩
theorem dX5_atEnd_27 : St mX5_atEnd 27 (.getfield 35) 3 30 := ⟨by decide +kernel, rfl⟩
theorem dX5_atEnd_30 : St mX5_atEnd 30 (.iconst 1) 1 31 := ⟨by decide +kernel, rfl⟩
theorem dX5_atEnd_31 : St mX5_atEnd 31 (.iadd) 1 32 := ⟨by decide +kernel, rfl⟩
theorem dX5_atEnd_32 : St mX5_atEnd 32 (.putfield 35) 3 35 := ⟨by decide +kernel, rfl⟩
theorem dX5_atEnd_35 : St mX5_atEnd 35 (.goto (-35)) 3 38 := ⟨by decide +kernel, rfl⟩
theorem dX5_atEnd_38 : St mX5_atEnd 38 (.aload_n 0) 1 39 := ⟨by decide +kernel, rfl⟩
theorem dX5_atEnd_39 : St mX5_atEnd 39 (.getfield 35) 3 42 := ⟨by decide +kernel, rfl⟩
theorem dX5_atEnd_42 : St mX5_atEnd 42 (.aload_n 0) 1 43 := ⟨by decide +kernel, rfl⟩
theorem dX5_atEnd_43 : St mX5_atEnd 43 (.getfield 15) 3 46 := ⟨by decide +kernel, rfl⟩
theorem dX5_atEnd_46 : St mX5_atEnd 46 (.if_icmp .lt 7) 3 49 := ⟨by decide +kernel, rfl⟩
theorem dX5_atEnd_49 : St mX5_atEnd 49 (.iconst 1) 1 50 := ⟨by decide +kernel, rfl⟩
theorem dX5_atEnd_50 : St mX5_atEnd 50 (.goto 4) 3 53 := ⟨by decide +kernel, rfl⟩
theorem dX5_atEnd_53 : St mX5_atEnd 53 (.iconst 0) 1 54 := ⟨by decide +kernel, rfl⟩
theorem dX5_atEnd_54 : St mX5_atEnd 54 (.ireturn) 1 55 := ⟨by decide +kernel, rfl⟩
theorem dX5_isDigit_0 : St mX5_isDigit 0 (.aload_n 0) 1 1 := ⟨by decide +kernel, rfl⟩
theorem dX5_isDigit_1 : St mX5_isDigit 1 (.getfield 35) 3 4 := ⟨by decide +kernel, rfl⟩
theorem dX5_isDigit_4 : St mX5_isDigit 4 (.aload_n 0) 1 5 := ⟨by decide +kernel, rfl⟩
theorem dX5_isDigit_5 : St mX5_isDigit 5 (.getfield 15) 3 8 := ⟨by decide +kernel, rfl⟩
theorem dX5_isDigit_8 : St mX5_isDigit 8 (.if_icmp .ge 35) 3 11 := ⟨by decide +kernel, rfl⟩
theorem dX5_isDigit_11 : St mX5_isDigit 11 (.aload_n 0) 1 12 := ⟨by decide +kernel, rfl⟩
theorem dX5_isDigit_12 : St mX5_isDigit 12 (.getfield 9) 3 15 := ⟨by decide +kernel, rfl⟩
theorem dX5_isDigit_15 : St mX5_isDigit 15 (.aload_n 0) 1 16 := ⟨by decide +kernel, rfl⟩
theorem dX5_isDigit_16 : St mX5_isDigit 16 (.getfield 35) 3 19 := ⟨by decide +kernel, rfl⟩
theorem dX5_isDigit_19 : St mX5_isDigit 19 (.caload) 1 20 := ⟨by decide +kernel, rfl⟩
theorem dX5_isDigit_20 : St mX5_isDigit 20 (.bipush 48) 2 22 := ⟨by decide +kernel, rfl⟩
theorem dX5_isDigit_22 : St mX5_isDigit 22 (.if_icmp .lt 21) 3 25 := ⟨by decide +kernel, rfl⟩
theorem dX5_isDigit_25 : St mX5_isDigit 25 (.aload_n 0) 1 26 := ⟨by decide +kernel, rfl⟩
theorem dX5_isDigit_26 : St mX5_isDigit 26 (.getfield 9) 3 29 := ⟨by decide +kernel, rfl⟩
theorem dX5_isDigit_29 : St mX5_isDigit 29 (.aload_n 0) 1 30 := ⟨by decide +kernel, rfl⟩
theorem dX5_isDigit_30 : St mX5_isDigit 30 (.getfield 35) 3 33 := ⟨by decide +kernel, rfl⟩
theorem dX5_isDigit_33 : St mX5_isDigit 33 (.caload) 1 34 := ⟨by decide +kernel, rfl⟩
theorem dX5_isDigit_34 : St mX5_isDigit 34 (.bipush 57) 2 36 := ⟨by decide +kernel, rfl⟩
theorem dX5_isDigit_36 : St mX5_isDigit 36 (.if_icmp .gt 7) 3 39 := ⟨by decide +kernel, rfl⟩
theorem dX5_isDigit_39 : St mX5_isDigit 39 (.iconst 1) 1 40 := ⟨by decide +kernel, rfl⟩
theorem dX5_isDigit_40 : St mX5_isDigit 40 (.goto 4) 3 43 := ⟨by decide +kernel, rfl⟩
theorem dX5_isDigit_43 : St mX5_isDigit 43 (.iconst 0) 1 44 := ⟨by decide +kernel, rfl⟩
theorem dX5_isDigit_44 : St mX5_isDigit 44 (.ireturn) 1 45 := ⟨by decide +kernel, rfl⟩
theorem dX5_readDigit_0 : St mX5_readDigit 0 (.aload_n 0) 1 1 := ⟨by decide +kernel, rfl⟩
theorem dX5_readDigit_1 : St mX5_readDigit 1 (.invokevirtual 49) 3 4 := ⟨by decide +kernel, rfl⟩
theorem dX5_readDigit_4 : St mX5_readDigit 4 (.ifCond .ne 10) 3 7 := ⟨by decide +kernel, rfl⟩
theorem dX5_readDigit_7 : St mX5_readDigit 7 (.aload_n 0) 1 8 := ⟨by decide +kernel, rfl⟩
theorem dX5_readDigit_8 : St mX5_readDigit 8 (.invokevirtual 55) 3 11 := ⟨by decide +kernel, rfl⟩
theorem dX5_readDigit_11 : St mX5_readDigit 11 (.ifCond .ne 5) 3 14 := ⟨by decide +kernel, rfl⟩
theorem dX5_readDigit_14 : St mX5_readDigit 14 (.iconst (-1)) 1 15 := ⟨by decide +kernel, rfl⟩
theorem dX5_readDigit_15 : St mX5_readDigit 15 (.ireturn) 1 16 := ⟨by decide +kernel, rfl⟩
theorem dX5_readDigit_16 : St mX5_readDigit 16 (.aload_n 0) 1 17 := ⟨by decide +kernel, rfl⟩
theorem dX5_readDigit_17 : St mX5_readDigit 17 (.getfield 9) 3 20 := ⟨by decide +kernel, rfl⟩
theorem dX5_readDigit_20 : St mX5_readDigit 20 (.aload_n 0) 1 21 := ⟨by decide +kernel, rfl⟩
theorem dX5_readDigit_21 : St mX5_readDigit 21 (.getfield 35) 3 24 := ⟨by decide +kernel, rfl⟩
theorem dX5_readDigit_24 : St mX5_readDigit 24 (.caload) 1 25 := ⟨by decide +kernel, rfl⟩
theorem dX5_readDigit_25 : St mX5_readDigit 25 (.bipush 48) 2 27 := ⟨by decide +kernel, rfl⟩
theorem dX5_readDigit_27 : St mX5_readDigit 27 (.isub) 1 28 := ⟨by decide +kernel, rfl⟩
theorem dX5_readDigit_28 : St mX5_readDigit 28 (.istore_n 1) 1 29 := ⟨by decide +kernel, rfl⟩
theorem dX5_readDigit_29 : St mX5_readDigit 29 (.aload_n 0) 1 30 := ⟨by decide +kernel, rfl⟩
theorem dX5_readDigit_30 : St mX5_readDigit 30 (.dup) 1 31 := ⟨by decide +kernel, rfl⟩
theorem dX5_readDigit_31 : St mX5_readDigit 31 (.getfield 35) 3 34 := ⟨by decide +kernel, rfl⟩
theorem dX5_readDigit_34 : St mX5_readDigit 34 (.iconst 1) 1 35 := ⟨by decide +kernel, rfl⟩
theorem dX5_readDigit_35 : St mX5_readDigit 35 (.iadd) 1 36 := ⟨by decide +kernel, rfl⟩
theorem dX5_readDigit_36 : St mX5_readDigit 36 (.putfield 35) 3 39 := ⟨by decide +kernel, rfl⟩
theorem dX5_readDigit_39 : St mX5_readDigit 39 (.iload_n 1) 1 40 := ⟨by decide +kernel, rfl⟩
theorem dX5_readDigit_40 : St mX5_readDigit 40 (.ireturn) 1 41 := ⟨by decide +kernel, rfl⟩
theorem dX5_readYear_0 : St mX5_readYear 0 (.aload_n 0) 1 1 := ⟨by decide +kernel, rfl⟩
theorem dX5_readYear_1 : St mX5_readYear 1 (.invokevirtual 58) 3 4 := ⟨by decide +kernel, rfl⟩
theorem dX5_readYear_4 : St mX5_readYear 4 (.istore_n 1) 1 5 := ⟨by decide +kernel, rfl⟩
theorem dX5_readYear_5 : St mX5_readYear 5 (.iload_n 1) 1 6 := ⟨by decide +kernel, rfl⟩
theorem dX5_readYear_6 : St mX5_readYear 6 (.ifCond .ge 5) 3 9 := ⟨by decide +kernel, rfl⟩
theorem dX5_readYear_9 : St mX5_readYear 9 (.iconst 0) 1 10 := ⟨by decide +kernel, rfl⟩
theorem dX5_readYear_10 : St mX5_readYear 10 (.ireturn) 1 11 := ⟨by decide +kernel, rfl⟩
theorem dX5_readYear_11 : St mX5_readYear 11 (.aload_n 0) 1 12 := ⟨by decide +kernel, rfl⟩
theorem dX5_readYear_12 : St mX5_readYear 12 (.getfield 35) 3 15 := ⟨by decide +kernel, rfl⟩
theorem dX5_readYear_15 : St mX5_readYear 15 (.iconst 1) 1 16 := ⟨by decide +kernel, rfl⟩
theorem dX5_readYear_16 : St mX5_readYear 16 (.isub) 1 17 := ⟨by decide +kernel, rfl⟩
theorem dX5_readYear_17 : St mX5_readYear 17 (.istore_n 2) 1 18 := ⟨by decide +kernel, rfl⟩
theorem dX5_readYear_18 : St mX5_readYear 18 (.aload_n 0) 1 19 := ⟨by decide +kernel, rfl⟩
theorem dX5_readYear_19 : St mX5_readYear 19 (.invokevirtual 55) 3 22 := ⟨by decide +kernel, rfl⟩
theorem dX5_readYear_22 : St mX5_readYear 22 (.ifCond .eq 31) 3 25 := ⟨by decide +kernel, rfl⟩
theorem dX5_readYear_25 : St mX5_readYear 25 (.bipush 10) 2 27 := ⟨by decide +kernel, rfl⟩
theorem dX5_readYear_27 : St mX5_readYear 27 (.iload_n 1) 1 28 := ⟨by decide +kernel, rfl⟩
theorem dX5_readYear_28 : St mX5_readYear 28 (.imul) 1 29 := ⟨by decide +kernel, rfl⟩
theorem dX5_readYear_29 : St mX5_readYear 29 (.aload_n 0) 1 30 := ⟨by decide +kernel, rfl⟩
theorem dX5_readYear_30 : St mX5_readYear 30 (.getfield 9) 3 33 := ⟨by decide +kernel, rfl⟩
theorem dX5_readYear_33 : St mX5_readYear 33 (.aload_n 0) 1 34 := ⟨by decide +kernel, rfl⟩
theorem dX5_readYear_34 : St mX5_readYear 34 (.getfield 35) 3 37 := ⟨by decide +kernel, rfl⟩
theorem dX5_readYear_37 : St mX5_readYear 37 (.caload) 1 38 := ⟨by decide +kernel, rfl⟩
theorem dX5_readYear_38 : St mX5_readYear 38 (.iadd) 1 39 := ⟨by decide +kernel, rfl⟩
theorem dX5_readYear_39 : St mX5_readYear 39 (.bipush 48) 2 41 := ⟨by decide +kernel, rfl⟩
theorem dX5_readYear_41 : St mX5_readYear 41 (.isub) 1 42 := ⟨by decide +kernel, rfl⟩
theorem dX5_readYear_42 : St mX5_readYear 42 (.istore_n 1) 1 43 := ⟨by decide +kernel, rfl⟩
theorem dX5_readYear_43 : St mX5_readYear 43 (.aload_n 0) 1 44 := ⟨by decide +kernel, rfl⟩
theorem dX5_readYear_44 : St mX5_readYear 44 (.dup) 1 45 := ⟨by decide +kernel, rfl⟩
theorem dX5_readYear_45 : St mX5_readYear 45 (.getfield 35) 3 48 := ⟨by decide +kernel, rfl⟩
theorem dX5_readYear_48 : St mX5_readYear 48 (.iconst 1) 1 49 := ⟨by decide +kernel, rfl⟩
theorem dX5_readYear_49 : St mX5_readYear 49 (.iadd) 1 50 := ⟨by decide +kernel, rfl⟩
theorem dX5_readYear_50 : St mX5_readYear 50 (.putfield 35) 3 53 := ⟨by decide +kernel, rfl⟩
theorem dX5_readYear_53 : St mX5_readYear 53 (.iload_n 1) 1 54 := ⟨by decide +kernel, rfl⟩
theorem dX5_readYear_54 : St mX5_readYear 54 (.iconst 2) 1 55 := ⟨by decide +kernel, rfl⟩
theorem dX5_readYear_55 : St mX5_readYear 55 (.bipush 52) 2 57 := ⟨by decide +kernel, rfl⟩
theorem dX5_readYear_57 : St mX5_readYear 57 (.invokestatic 62) 3 60 := ⟨by decide +kernel, rfl⟩
theorem dX5_readYear_60 : St mX5_readYear 60 (.ifCond .ne 10) 3 63 := ⟨by decide +kernel, rfl⟩
theorem dX5_readYear_63 : St mX5_readYear 63 (.aload_n 0) 1 64 := ⟨by decide +kernel, rfl⟩
theorem dX5_readYear_64 : St mX5_readYear 64 (.iload_n 2) 1 65 := ⟨by decide +kernel, rfl⟩
theorem dX5_readYear_65 : St mX5_readYear 65 (.putfield 35) 3 68 := ⟨by decide +kernel, rfl⟩
theorem dX5_readYear_68 : St mX5_readYear 68 (.iconst 0) 1 69 := ⟨by decide +kernel, rfl⟩
theorem dX5_readYear_69 : St mX5_readYear 69 (.ireturn) 1 70 := ⟨by decide +kernel, rfl⟩
theorem dX5_readYear_70 : St mX5_readYear 70 (.aload_n 0) 1 71 := ⟨by decide +kernel, rfl⟩
theorem dX5_readYear_71 : St mX5_readYear 71 (.iload_n 1) 1 72 := ⟨by decide +kernel, rfl⟩
theorem dX5_readYear_72 : St mX5_readYear 72 (.putfield 32) 3 75 := ⟨by decide +kernel, rfl⟩
theorem dX5_readYear_75 : St mX5_readYear 75 (.iconst 1) 1 76 := ⟨by decide +kernel, rfl⟩
theorem dX5_readYear_76 : St mX5_readYear 76 (.ireturn) 1 77 := ⟨by decide +kernel, rfl⟩
theorem dX5_readSign_0 : St mX5_readSign 0 (.aload_n 0) 1 1 := ⟨by decide +kernel, rfl⟩
theorem dX5_readSign_1 : St mX5_readSign 1 (.invokevirtual 49) 3 4 := ⟨by decide +kernel, rfl⟩
theorem dX5_readSign_4 : St mX5_readSign 4 (.ifCond .ne 16) 3 7 := ⟨by decide +kernel, rfl⟩
theorem dX5_readSign_7 : St mX5_readSign 7 (.aload_n 0) 1 8 := ⟨by decide +kernel, rfl⟩
theorem dX5_readSign_8 : St mX5_readSign 8 (.getfield 9) 3 11 := ⟨by decide +kernel, rfl⟩
theorem dX5_readSign_11 : St mX5_readSign 11 (.aload_n 0) 1 12 := ⟨by decide +kernel, rfl⟩
theorem dX5_readSign_12 : St mX5_readSign 12 (.getfield 35) 3 15 := ⟨by decide +kernel, rfl⟩
theorem dX5_readSign_15 : St mX5_readSign 15 (.caload) 1 16 := ⟨by decide +kernel, rfl⟩
theorem dX5_readSign_16 : St mX5_readSign 16 (.iload_n 1) 1 17 := ⟨by decide +kernel, rfl⟩
theorem dX5_readSign_17 : St mX5_readSign 17 (.if_icmp .eq 5) 3 20 := ⟨by decide +kernel, rfl⟩
theorem dX5_readSign_20 : St mX5_readSign 20 (.iconst 0) 1 21 := ⟨by decide +kernel, rfl⟩
theorem dX5_readSign_21 : St mX5_readSign 21 (.ireturn) 1 22 := ⟨by decide +kernel, rfl⟩
theorem dX5_readSign_22 : St mX5_readSign 22 (.aload_n 0) 1 23 := ⟨by decide +kernel, rfl⟩
theorem dX5_readSign_23 : St mX5_readSign 23 (.dup) 1 24 := ⟨by decide +kernel, rfl⟩
theorem dX5_readSign_24 : St mX5_readSign 24 (.getfield 35) 3 27 := ⟨by decide +kernel, rfl⟩
theorem dX5_readSign_27 : St mX5_readSign 27 (.iconst 1) 1 28 := ⟨by decide +kernel, rfl⟩
theorem dX5_readSign_28 : St mX5_readSign 28 (.iadd) 1 29 := ⟨by decide +kernel, rfl⟩
theorem dX5_readSign_29 : St mX5_readSign 29 (.putfield 35) 3 32 := ⟨by decide +kernel, rfl⟩
theorem dX5_readSign_32 : St mX5_readSign 32 (.iconst 1) 1 33 := ⟨by decide +kernel, rfl⟩
theorem dX5_readSign_33 : St mX5_readSign 33 (.ireturn) 1 34 := ⟨by decide +kernel, rfl⟩
theorem dX5_readOwner_0 : St mX5_readOwner 0 (.aload_n 0) 1 1 := ⟨by decide +kernel, rfl⟩
theorem dX5_readOwner_1 : St mX5_readOwner 1 (.invokevirtual 49) 3 4 := ⟨by decide +kernel, rfl⟩
theorem dX5_readOwner_4 : St mX5_readOwner 4 (.ifCond .eq 7) 3 7 := ⟨by decide +kernel, rfl⟩
theorem dX5_readOwner_7 : St mX5_readOwner 7 (.iconst (-1)) 1 8 := ⟨by decide +kernel, rfl⟩
theorem dX5_readOwner_8 : St mX5_readOwner 8 (.goto 17) 3 11 := ⟨by decide +kernel, rfl⟩
theorem dX5_readOwner_11 : St mX5_readOwner 11 (.ldc 66) 2 13 := ⟨by decide +kernel, rfl⟩
theorem dX5_readOwner_13 : St mX5_readOwner 13 (.aload_n 0) 1 14 := ⟨by decide +kernel, rfl⟩
theorem dX5_readOwner_14 : St mX5_readOwner 14 (.getfield 9) 3 17 := ⟨by decide +kernel, rfl⟩
theorem dX5_readOwner_17 : St mX5_readOwner 17 (.aload_n 0) 1 18 := ⟨by decide +kernel, rfl⟩
theorem dX5_readOwner_18 : St mX5_readOwner 18 (.getfield 35) 3 21 := ⟨by decide +kernel, rfl⟩
theorem dX5_readOwner_21 : St mX5_readOwner 21 (.caload) 1 22 := ⟨by decide +kernel, rfl⟩
theorem dX5_readOwner_22 : St mX5_readOwner 22 (.invokevirtual 68) 3 25 := ⟨by decide +kernel, rfl⟩
theorem dX5_readOwner_25 : St mX5_readOwner 25 (.istore_n 1) 1 26 := ⟨by decide +kernel, rfl⟩
theorem dX5_readOwner_26 : St mX5_readOwner 26 (.iload_n 1) 1 27 := ⟨by decide +kernel, rfl⟩
theorem dX5_readOwner_27 : St mX5_readOwner 27 (.ifCond .ge 5) 3 30 := ⟨by decide +kernel, rfl⟩
theorem dX5_readOwner_30 : St mX5_readOwner 30 (.iconst 0) 1 31 := ⟨by decide +kernel, rfl⟩
theorem dX5_readOwner_31 : St mX5_readOwner 31 (.ireturn) 1 32 := ⟨by decide +kernel, rfl⟩
theorem dX5_readOwner_32 : St mX5_readOwner 32 (.aload_n 0) 1 33 := ⟨by decide +kernel, rfl⟩
theorem dX5_readOwner_33 : St mX5_readOwner 33 (.dup) 1 34 := ⟨by decide +kernel, rfl⟩
theorem dX5_readOwner_34 : St mX5_readOwner 34 (.getfield 35) 3 37 := ⟨by decide +kernel, rfl⟩
theorem dX5_readOwner_37 : St mX5_readOwner 37 (.iconst 1) 1 38 := ⟨by decide +kernel, rfl⟩
theorem dX5_readOwner_38 : St mX5_readOwner 38 (.iadd) 1 39 := ⟨by decide +kernel, rfl⟩
theorem dX5_readOwner_39 : St mX5_readOwner 39 (.putfield 35) 3 42 := ⟨by decide +kernel, rfl⟩
theorem dX5_readOwner_42 : St mX5_readOwner 42 (.aload_n 0) 1 43 := ⟨by decide +kernel, rfl⟩
theorem dX5_readOwner_43 : St mX5_readOwner 43 (.invokevirtual 58) 3 46 := ⟨by decide +kernel, rfl⟩
theorem dX5_readOwner_46 : St mX5_readOwner 46 (.istore_n 2) 1 47 := ⟨by decide +kernel, rfl⟩
theorem dX5_readOwner_47 : St mX5_readOwner 47 (.iload_n 2) 1 48 := ⟨by decide +kernel, rfl⟩
theorem dX5_readOwner_48 : St mX5_readOwner 48 (.ifCond .ge 5) 3 51 := ⟨by decide +kernel, rfl⟩
theorem dX5_readOwner_51 : St mX5_readOwner 51 (.iconst 0) 1 52 := ⟨by decide +kernel, rfl⟩
theorem dX5_readOwner_52 : St mX5_readOwner 52 (.ireturn) 1 53 := ⟨by decide +kernel, rfl⟩
theorem dX5_readOwner_53 : St mX5_readOwner 53 (.aload_n 0) 1 54 := ⟨by decide +kernel, rfl⟩
theorem dX5_readOwner_54 : St mX5_readOwner 54 (.getfield 19) 3 57 := ⟨by decide +kernel, rfl⟩
theorem dX5_readOwner_57 : St mX5_readOwner 57 (.aload_n 0) 1 58 := ⟨by decide +kernel, rfl⟩
theorem dX5_readOwner_58 : St mX5_readOwner 58 (.getfield 29) 3 61 := ⟨by decide +kernel, rfl⟩
theorem dX5_readOwner_61 : St mX5_readOwner 61 (.iload_n 1) 1 62 := ⟨by decide +kernel, rfl⟩
theorem dX5_readOwner_62 : St mX5_readOwner 62 (.iastore) 1 63 := ⟨by decide +kernel, rfl⟩
theorem dX5_readOwner_63 : St mX5_readOwner 63 (.aload_n 0) 1 64 := ⟨by decide +kernel, rfl⟩
theorem dX5_readOwner_64 : St mX5_readOwner 64 (.getfield 23) 3 67 := ⟨by decide +kernel, rfl⟩
theorem dX5_readOwner_67 : St mX5_readOwner 67 (.aload_n 0) 1 68 := ⟨by decide +kernel, rfl⟩
theorem dX5_readOwner_68 : St mX5_readOwner 68 (.getfield 29) 3 71 := ⟨by decide +kernel, rfl⟩
theorem dX5_readOwner_71 : St mX5_readOwner 71 (.iload_n 2) 1 72 := ⟨by decide +kernel, rfl⟩
theorem dX5_readOwner_72 : St mX5_readOwner 72 (.iastore) 1 73 := ⟨by decide +kernel, rfl⟩
theorem dX5_readOwner_73 : St mX5_readOwner 73 (.iconst 1) 1 74 := ⟨by decide +kernel, rfl⟩
theorem dX5_readOwner_74 : St mX5_readOwner 74 (.ireturn) 1 75 := ⟨by decide +kernel, rfl⟩
theorem dX5_readQuarrel_0 : St mX5_readQuarrel 0 (.aload_n 0) 1 1 := ⟨by decide +kernel, rfl⟩
theorem dX5_readQuarrel_1 : St mX5_readQuarrel 1 (.invokevirtual 58) 3 4 := ⟨by decide +kernel, rfl⟩
theorem dX5_readQuarrel_4 : St mX5_readQuarrel 4 (.istore_n 1) 1 5 := ⟨by decide +kernel, rfl⟩
theorem dX5_readQuarrel_5 : St mX5_readQuarrel 5 (.iload_n 1) 1 6 := ⟨by decide +kernel, rfl⟩
theorem dX5_readQuarrel_6 : St mX5_readQuarrel 6 (.ifCond .ge 5) 3 9 := ⟨by decide +kernel, rfl⟩
theorem dX5_readQuarrel_9 : St mX5_readQuarrel 9 (.iconst 0) 1 10 := ⟨by decide +kernel, rfl⟩
theorem dX5_readQuarrel_10 : St mX5_readQuarrel 10 (.ireturn) 1 11 := ⟨by decide +kernel, rfl⟩
theorem dX5_readQuarrel_11 : St mX5_readQuarrel 11 (.aload_n 0) 1 12 := ⟨by decide +kernel, rfl⟩
theorem dX5_readQuarrel_12 : St mX5_readQuarrel 12 (.invokevirtual 58) 3 15 := ⟨by decide +kernel, rfl⟩
theorem dX5_readQuarrel_15 : St mX5_readQuarrel 15 (.istore_n 2) 1 16 := ⟨by decide +kernel, rfl⟩
theorem dX5_readQuarrel_16 : St mX5_readQuarrel 16 (.iload_n 2) 1 17 := ⟨by decide +kernel, rfl⟩
theorem dX5_readQuarrel_17 : St mX5_readQuarrel 17 (.ifCond .ge 5) 3 20 := ⟨by decide +kernel, rfl⟩
theorem dX5_readQuarrel_20 : St mX5_readQuarrel 20 (.iconst 0) 1 21 := ⟨by decide +kernel, rfl⟩
theorem dX5_readQuarrel_21 : St mX5_readQuarrel 21 (.ireturn) 1 22 := ⟨by decide +kernel, rfl⟩
theorem dX5_readQuarrel_22 : St mX5_readQuarrel 22 (.aload_n 0) 1 23 := ⟨by decide +kernel, rfl⟩
theorem dX5_readQuarrel_23 : St mX5_readQuarrel 23 (.getfield 26) 3 26 := ⟨by decide +kernel, rfl⟩
theorem dX5_readQuarrel_26 : St mX5_readQuarrel 26 (.aload_n 0) 1 27 := ⟨by decide +kernel, rfl⟩
theorem dX5_readQuarrel_27 : St mX5_readQuarrel 27 (.getfield 29) 3 30 := ⟨by decide +kernel, rfl⟩
theorem dX5_readQuarrel_30 : St mX5_readQuarrel 30 (.iconst 1) 1 31 := ⟨by decide +kernel, rfl⟩
theorem dX5_readQuarrel_31 : St mX5_readQuarrel 31 (.isub) 1 32 := ⟨by decide +kernel, rfl⟩
theorem dX5_readQuarrel_32 : St mX5_readQuarrel 32 (.bipush 10) 2 34 := ⟨by decide +kernel, rfl⟩
theorem dX5_readQuarrel_34 : St mX5_readQuarrel 34 (.iload_n 1) 1 35 := ⟨by decide +kernel, rfl⟩
theorem dX5_readQuarrel_35 : St mX5_readQuarrel 35 (.imul) 1 36 := ⟨by decide +kernel, rfl⟩
theorem dX5_readQuarrel_36 : St mX5_readQuarrel 36 (.iload_n 2) 1 37 := ⟨by decide +kernel, rfl⟩
theorem dX5_readQuarrel_37 : St mX5_readQuarrel 37 (.iadd) 1 38 := ⟨by decide +kernel, rfl⟩
theorem dX5_readQuarrel_38 : St mX5_readQuarrel 38 (.iastore) 1 39 := ⟨by decide +kernel, rfl⟩
theorem dX5_readQuarrel_39 : St mX5_readQuarrel 39 (.iconst 1) 1 40 := ⟨by decide +kernel, rfl⟩
theorem dX5_readQuarrel_40 : St mX5_readQuarrel 40 (.ireturn) 1 41 := ⟨by decide +kernel, rfl⟩
end
section
theorem dX6_init_0 : St mX6_init 0 (.aload_n 0) 1 1 := ⟨by decide +kernel, rfl⟩
theorem dX6_init_1 : St mX6_init 1 (.invokespecial 1) 3 4 := ⟨by decide +kernel, rfl⟩
theorem dX6_init_4 : St mX6_init 4 (.aload_n 0) 1 5 := ⟨by decide +kernel, rfl⟩
theorem dX6_init_5 : St mX6_init 5 (.new 7) 3 8 := ⟨by decide +kernel, rfl⟩
theorem dX6_init_8 : St mX6_init 8 (.dup) 1 9 := ⟨by decide +kernel, rfl⟩
theorem dX6_init_9 : St mX6_init 9 (.invokespecial 9) 3 12 := ⟨by decide +kernel, rfl⟩
theorem dX6_init_12 : St mX6_init 12 (.putfield 10) 3 15 := ⟨by decide +kernel, rfl⟩
theorem dX6_init_15 : St mX6_init 15 (.aload_n 0) 1 16 := ⟨by decide +kernel, rfl⟩
theorem dX6_init_16 : St mX6_init 16 (.new 7) 3 19 := ⟨by decide +kernel, rfl⟩
theorem dX6_init_19 : St mX6_init 19 (.dup) 1 20 := ⟨by decide +kernel, rfl⟩
theorem dX6_init_20 : St mX6_init 20 (.invokespecial 9) 3 23 := ⟨by decide +kernel, rfl⟩
theorem dX6_init_23 : St mX6_init 23 (.putfield 16) 3 26 := ⟨by decide +kernel, rfl⟩
theorem dX6_init_26 : St mX6_init 26 (.aload_n 0) 1 27 := ⟨by decide +kernel, rfl⟩
theorem dX6_init_27 : St mX6_init 27 (.iconst 0) 1 28 := ⟨by decide +kernel, rfl⟩
theorem dX6_init_28 : St mX6_init 28 (.putfield 19) 3 31 := ⟨by decide +kernel, rfl⟩
theorem dX6_init_31 : St mX6_init 31 (.aload_n 0) 1 32 := ⟨by decide +kernel, rfl⟩
theorem dX6_init_32 : St mX6_init 32 (.new 23) 3 35 := ⟨by decide +kernel, rfl⟩
theorem dX6_init_35 : St mX6_init 35 (.dup) 1 36 := ⟨by decide +kernel, rfl⟩
theorem dX6_init_36 : St mX6_init 36 (.aload_n 0) 1 37 := ⟨by decide +kernel, rfl⟩
theorem dX6_init_37 : St mX6_init 37 (.getfield 10) 3 40 := ⟨by decide +kernel, rfl⟩
theorem dX6_init_40 : St mX6_init 40 (.invokespecial 25) 3 43 := ⟨by decide +kernel, rfl⟩
theorem dX6_init_43 : St mX6_init 43 (.putfield 28) 3 46 := ⟨by decide +kernel, rfl⟩
theorem dX6_init_46 : St mX6_init 46 (.aload_n 0) 1 47 := ⟨by decide +kernel, rfl⟩
theorem dX6_init_47 : St mX6_init 47 (.new 32) 3 50 := ⟨by decide +kernel, rfl⟩
theorem dX6_init_50 : St mX6_init 50 (.dup) 1 51 := ⟨by decide +kernel, rfl⟩
theorem dX6_init_51 : St mX6_init 51 (.invokespecial 34) 3 54 := ⟨by decide +kernel, rfl⟩
theorem dX6_init_54 : St mX6_init 54 (.putfield 35) 3 57 := ⟨by decide +kernel, rfl⟩
theorem dX6_init_57 : St mX6_init 57 (.aload_n 0) 1 58 := ⟨by decide +kernel, rfl⟩
theorem dX6_init_58 : St mX6_init 58 (.iconst 4) 1 59 := ⟨by decide +kernel, rfl⟩
theorem dX6_init_59 : St mX6_init 59 (.anewarray 39) 3 62 := ⟨by decide +kernel, rfl⟩
theorem dX6_init_62 : St mX6_init 62 (.putfield 41) 3 65 := ⟨by decide +kernel, rfl⟩
theorem dX6_init_65 : St mX6_init 65 (.iconst 0) 1 66 := ⟨by decide +kernel, rfl⟩
theorem dX6_init_66 : St mX6_init 66 (.istore_n 1) 1 67 := ⟨by decide +kernel, rfl⟩
theorem dX6_init_67 : St mX6_init 67 (.iload_n 1) 1 68 := ⟨by decide +kernel, rfl⟩
theorem dX6_init_68 : St mX6_init 68 (.iconst 4) 1 69 := ⟨by decide +kernel, rfl⟩
theorem dX6_init_69 : St mX6_init 69 (.if_icmp .ge 22) 3 72 := ⟨by decide +kernel, rfl⟩
theorem dX6_init_72 : St mX6_init 72 (.aload_n 0) 1 73 := ⟨by decide +kernel, rfl⟩
theorem dX6_init_73 : St mX6_init 73 (.getfield 41) 3 76 := ⟨by decide +kernel, rfl⟩
theorem dX6_init_76 : St mX6_init 76 (.iload_n 1) 1 77 := ⟨by decide +kernel, rfl⟩
theorem dX6_init_77 : St mX6_init 77 (.new 39) 3 80 := ⟨by decide +kernel, rfl⟩
theorem dX6_init_80 : St mX6_init 80 (.dup) 1 81 := ⟨by decide +kernel, rfl⟩
theorem dX6_init_81 : St mX6_init 81 (.invokespecial 45) 3 84 := ⟨by decide +kernel, rfl⟩
theorem dX6_init_84 : St mX6_init 84 (.aastore) 1 85 := ⟨by decide +kernel, rfl⟩
theorem dX6_init_85 : St mX6_init 85 (.iinc 1 1) 3 88 := ⟨by decide +kernel, rfl⟩
theorem dX6_init_88 : St mX6_init 88 (.goto (-21)) 3 91 := ⟨by decide +kernel, rfl⟩
theorem dX6_init_91 : St mX6_init 91 (.return_) 1 92 := ⟨by decide +kernel, rfl⟩
theorem dX6_garden_0 : St mX6_garden 0 (.iload_n 1) 1 1 := ⟨by decide +kernel, rfl⟩
theorem dX6_garden_1 : St mX6_garden 1 (.iconst 0) 1 2 := ⟨by decide +kernel, rfl⟩
theorem dX6_garden_2 : St mX6_garden 2 (.iconst 4) 1 3 := ⟨by decide +kernel, rfl⟩
theorem dX6_garden_3 : St mX6_garden 3 (.invokestatic 46) 3 6 := ⟨by decide +kernel, rfl⟩
theorem dX6_garden_6 : St mX6_garden 6 (.ifCond .eq 13) 3 9 := ⟨by decide +kernel, rfl⟩
theorem dX6_garden_9 : St mX6_garden 9 (.iload_n 2) 1 10 := ⟨by decide +kernel, rfl⟩
theorem dX6_garden_10 : St mX6_garden 10 (.iconst 0) 1 11 := ⟨by decide +kernel, rfl⟩
theorem dX6_garden_11 : St mX6_garden 11 (.bipush 9) 2 13 := ⟨by decide +kernel, rfl⟩
theorem dX6_garden_13 : St mX6_garden 13 (.invokestatic 46) 3 16 := ⟨by decide +kernel, rfl⟩
theorem dX6_garden_16 : St mX6_garden 16 (.ifCond .ne 5) 3 19 := ⟨by decide +kernel, rfl⟩
theorem dX6_garden_19 : St mX6_garden 19 (.iconst (-1)) 1 20 := ⟨by decide +kernel, rfl⟩
theorem dX6_garden_20 : St mX6_garden 20 (.ireturn) 1 21 := ⟨by decide +kernel, rfl⟩
theorem dX6_garden_21 : St mX6_garden 21 (.aload_n 0) 1 22 := ⟨by decide +kernel, rfl⟩
theorem dX6_garden_22 : St mX6_garden 22 (.getfield 10) 3 25 := ⟨by decide +kernel, rfl⟩
theorem dX6_garden_25 : St mX6_garden 25 (.getfield 50) 3 28 := ⟨by decide +kernel, rfl⟩
theorem dX6_garden_28 : St mX6_garden 28 (.bipush 6) 2 30 := ⟨by decide +kernel, rfl⟩
theorem dX6_garden_30 : St mX6_garden 30 (.if_icmp .lt 6) 3 33 := ⟨by decide +kernel, rfl⟩
theorem dX6_garden_33 : St mX6_garden 33 (.bipush (-3)) 2 35 := ⟨by decide +kernel, rfl⟩
theorem dX6_garden_35 : St mX6_garden 35 (.ireturn) 1 36 := ⟨by decide +kernel, rfl⟩
theorem dX6_garden_36 : St mX6_garden 36 (.aload_n 0) 1 37 := ⟨by decide +kernel, rfl⟩
theorem dX6_garden_37 : St mX6_garden 37 (.getfield 10) 3 40 := ⟨by decide +kernel, rfl⟩
theorem dX6_garden_40 : St mX6_garden 40 (.iload_n 1) 1 41 := ⟨by decide +kernel, rfl⟩
theorem dX6_garden_41 : St mX6_garden 41 (.iload_n 2) 1 42 := ⟨by decide +kernel, rfl⟩
theorem dX6_garden_42 : St mX6_garden 42 (.invokevirtual 54) 3 45 := ⟨by decide +kernel, rfl⟩
theorem dX6_garden_45 : St mX6_garden 45 (.ireturn) 1 46 := ⟨by decide +kernel, rfl⟩
theorem dX6_of_0 : St mX6_of 0 (.aload_n 0) 1 1 := ⟨by decide +kernel, rfl⟩
theorem dX6_of_1 : St mX6_of 1 (.getfield 10) 3 4 := ⟨by decide +kernel, rfl⟩
theorem dX6_of_4 : St mX6_of 4 (.iload_n 1) 1 5 := ⟨by decide +kernel, rfl⟩
theorem dX6_of_5 : St mX6_of 5 (.invokevirtual 58) 3 8 := ⟨by decide +kernel, rfl⟩
theorem dX6_of_8 : St mX6_of 8 (.ifCond .ne 5) 3 11 := ⟨by decide +kernel, rfl⟩
theorem dX6_of_11 : St mX6_of 11 (.iconst (-1)) 1 12 := ⟨by decide +kernel, rfl⟩
theorem dX6_of_12 : St mX6_of 12 (.ireturn) 1 13 := ⟨by decide +kernel, rfl⟩
theorem dX6_of_13 : St mX6_of 13 (.iload_n 2) 1 14 := ⟨by decide +kernel, rfl⟩
theorem dX6_of_14 : St mX6_of 14 (.tableswitch 138 0 5 #[38, 48, 58, 71, 100, 129]) 38 52 := ⟨by decide +kernel, rfl⟩
theorem dX6_of_52 : St mX6_of 52 (.aload_n 0) 1 53 := ⟨by decide +kernel, rfl⟩
theorem dX6_of_53 : St mX6_of 53 (.getfield 10) 3 56 := ⟨by decide +kernel, rfl⟩
theorem dX6_of_56 : St mX6_of 56 (.getfield 62) 3 59 := ⟨by decide +kernel, rfl⟩
theorem dX6_of_59 : St mX6_of 59 (.iload_n 1) 1 60 := ⟨by decide +kernel, rfl⟩
theorem dX6_of_60 : St mX6_of 60 (.iaload) 1 61 := ⟨by decide +kernel, rfl⟩
theorem dX6_of_61 : St mX6_of 61 (.ireturn) 1 62 := ⟨by decide +kernel, rfl⟩
theorem dX6_of_62 : St mX6_of 62 (.aload_n 0) 1 63 := ⟨by decide +kernel, rfl⟩
theorem dX6_of_63 : St mX6_of 63 (.getfield 10) 3 66 := ⟨by decide +kernel, rfl⟩
theorem dX6_of_66 : St mX6_of 66 (.getfield 66) 3 69 := ⟨by decide +kernel, rfl⟩
theorem dX6_of_69 : St mX6_of 69 (.iload_n 1) 1 70 := ⟨by decide +kernel, rfl⟩
theorem dX6_of_70 : St mX6_of 70 (.iaload) 1 71 := ⟨by decide +kernel, rfl⟩
theorem dX6_of_71 : St mX6_of 71 (.ireturn) 1 72 := ⟨by decide +kernel, rfl⟩
theorem dX6_of_72 : St mX6_of 72 (.aload_n 0) 1 73 := ⟨by decide +kernel, rfl⟩
theorem dX6_of_73 : St mX6_of 73 (.getfield 10) 3 76 := ⟨by decide +kernel, rfl⟩
theorem dX6_of_76 : St mX6_of 76 (.getfield 69) 3 79 := ⟨by decide +kernel, rfl⟩
theorem dX6_of_79 : St mX6_of 79 (.getfield 73) 3 82 := ⟨by decide +kernel, rfl⟩
theorem dX6_of_82 : St mX6_of 82 (.iload_n 1) 1 83 := ⟨by decide +kernel, rfl⟩
theorem dX6_of_83 : St mX6_of 83 (.iaload) 1 84 := ⟨by decide +kernel, rfl⟩
theorem dX6_of_84 : St mX6_of 84 (.ireturn) 1 85 := ⟨by decide +kernel, rfl⟩
theorem dX6_of_85 : St mX6_of 85 (.aload_n 0) 1 86 := ⟨by decide +kernel, rfl⟩
theorem dX6_of_86 : St mX6_of 86 (.getfield 10) 3 89 := ⟨by decide +kernel, rfl⟩
theorem dX6_of_89 : St mX6_of 89 (.iload_n 1) 1 90 := ⟨by decide +kernel, rfl⟩
theorem dX6_of_90 : St mX6_of 90 (.iconst 1) 1 91 := ⟨by decide +kernel, rfl⟩
theorem dX6_of_91 : St mX6_of 91 (.isub) 1 92 := ⟨by decide +kernel, rfl⟩
theorem dX6_of_92 : St mX6_of 92 (.invokevirtual 58) 3 95 := ⟨by decide +kernel, rfl⟩
theorem dX6_of_95 : St mX6_of 95 (.ifCond .eq 17) 3 98 := ⟨by decide +kernel, rfl⟩
theorem dX6_of_98 : St mX6_of 98 (.aload_n 0) 1 99 := ⟨by decide +kernel, rfl⟩
theorem dX6_of_99 : St mX6_of 99 (.getfield 10) 3 102 := ⟨by decide +kernel, rfl⟩
theorem dX6_of_102 : St mX6_of 102 (.iload_n 1) 1 103 := ⟨by decide +kernel, rfl⟩
theorem dX6_of_103 : St mX6_of 103 (.iload_n 1) 1 104 := ⟨by decide +kernel, rfl⟩
theorem dX6_of_104 : St mX6_of 104 (.iconst 1) 1 105 := ⟨by decide +kernel, rfl⟩
theorem dX6_of_105 : St mX6_of 105 (.isub) 1 106 := ⟨by decide +kernel, rfl⟩
theorem dX6_of_106 : St mX6_of 106 (.invokevirtual 78) 3 109 := ⟨by decide +kernel, rfl⟩
theorem dX6_of_109 : St mX6_of 109 (.goto 4) 3 112 := ⟨by decide +kernel, rfl⟩
theorem dX6_of_112 : St mX6_of 112 (.iconst 0) 1 113 := ⟨by decide +kernel, rfl⟩
theorem dX6_of_113 : St mX6_of 113 (.ireturn) 1 114 := ⟨by decide +kernel, rfl⟩
theorem dX6_of_114 : St mX6_of 114 (.aload_n 0) 1 115 := ⟨by decide +kernel, rfl⟩
theorem dX6_of_115 : St mX6_of 115 (.getfield 10) 3 118 := ⟨by decide +kernel, rfl⟩
theorem dX6_of_118 : St mX6_of 118 (.iload_n 1) 1 119 := ⟨by decide +kernel, rfl⟩
theorem dX6_of_119 : St mX6_of 119 (.iconst 1) 1 120 := ⟨by decide +kernel, rfl⟩
theorem dX6_of_120 : St mX6_of 120 (.iadd) 1 121 := ⟨by decide +kernel, rfl⟩
theorem dX6_of_121 : St mX6_of 121 (.invokevirtual 58) 3 124 := ⟨by decide +kernel, rfl⟩
theorem dX6_of_124 : St mX6_of 124 (.ifCond .eq 17) 3 127 := ⟨by decide +kernel, rfl⟩
theorem dX6_of_127 : St mX6_of 127 (.aload_n 0) 1 128 := ⟨by decide +kernel, rfl⟩
theorem dX6_of_128 : St mX6_of 128 (.getfield 10) 3 131 := ⟨by decide +kernel, rfl⟩
theorem dX6_of_131 : St mX6_of 131 (.iload_n 1) 1 132 := ⟨by decide +kernel, rfl⟩
theorem dX6_of_132 : St mX6_of 132 (.iload_n 1) 1 133 := ⟨by decide +kernel, rfl⟩
theorem dX6_of_133 : St mX6_of 133 (.iconst 1) 1 134 := ⟨by decide +kernel, rfl⟩
theorem dX6_of_134 : St mX6_of 134 (.iadd) 1 135 := ⟨by decide +kernel, rfl⟩
theorem dX6_of_135 : St mX6_of 135 (.invokevirtual 78) 3 138 := ⟨by decide +kernel, rfl⟩
theorem dX6_of_138 : St mX6_of 138 (.goto 4) 3 141 := ⟨by decide +kernel, rfl⟩
theorem dX6_of_141 : St mX6_of 141 (.iconst 0) 1 142 := ⟨by decide +kernel, rfl⟩
theorem dX6_of_142 : St mX6_of 142 (.ireturn) 1 143 := ⟨by decide +kernel, rfl⟩
theorem dX6_of_143 : St mX6_of 143 (.aload_n 0) 1 144 := ⟨by decide +kernel, rfl⟩
theorem dX6_of_144 : St mX6_of 144 (.getfield 10) 3 147 := ⟨by decide +kernel, rfl⟩
theorem dX6_of_147 : St mX6_of 147 (.iload_n 1) 1 148 := ⟨by decide +kernel, rfl⟩
theorem dX6_of_148 : St mX6_of 148 (.invokevirtual 81) 3 151 := ⟨by decide +kernel, rfl⟩
theorem dX6_of_151 : St mX6_of 151 (.ireturn) 1 152 := ⟨by decide +kernel, rfl⟩
theorem dX6_of_152 : St mX6_of 152 (.iconst (-1)) 1 153 := ⟨by decide +kernel, rfl⟩
theorem dX6_of_153 : St mX6_of 153 (.ireturn) 1 154 := ⟨by decide +kernel, rfl⟩
theorem dX6_wall_0 : St mX6_wall 0 (.aload_n 0) 1 1 := ⟨by decide +kernel, rfl⟩
theorem dX6_wall_1 : St mX6_wall 1 (.getfield 10) 3 4 := ⟨by decide +kernel, rfl⟩
theorem dX6_wall_4 : St mX6_wall 4 (.iload_n 1) 1 5 := ⟨by decide +kernel, rfl⟩
theorem dX6_wall_5 : St mX6_wall 5 (.invokevirtual 85) 3 8 := ⟨by decide +kernel, rfl⟩
theorem dX6_wall_8 : St mX6_wall 8 (.ifCond .ne 5) 3 11 := ⟨by decide +kernel, rfl⟩
theorem dX6_wall_11 : St mX6_wall 11 (.iconst (-1)) 1 12 := ⟨by decide +kernel, rfl⟩
theorem dX6_wall_12 : St mX6_wall 12 (.ireturn) 1 13 := ⟨by decide +kernel, rfl⟩
theorem dX6_wall_13 : St mX6_wall 13 (.iload_n 2) 1 14 := ⟨by decide +kernel, rfl⟩
theorem dX6_wall_14 : St mX6_wall 14 (.tableswitch 92 0 3 #[30, 43, 56, 80]) 30 44 := ⟨by decide +kernel, rfl⟩
theorem dX6_wall_44 : St mX6_wall 44 (.aload_n 0) 1 45 := ⟨by decide +kernel, rfl⟩
theorem dX6_wall_45 : St mX6_wall 45 (.getfield 10) 3 48 := ⟨by decide +kernel, rfl⟩
theorem dX6_wall_48 : St mX6_wall 48 (.getfield 69) 3 51 := ⟨by decide +kernel, rfl⟩
theorem dX6_wall_51 : St mX6_wall 51 (.getfield 88) 3 54 := ⟨by decide +kernel, rfl⟩
theorem dX6_wall_54 : St mX6_wall 54 (.iload_n 1) 1 55 := ⟨by decide +kernel, rfl⟩
theorem dX6_wall_55 : St mX6_wall 55 (.iaload) 1 56 := ⟨by decide +kernel, rfl⟩
theorem dX6_wall_56 : St mX6_wall 56 (.ireturn) 1 57 := ⟨by decide +kernel, rfl⟩
theorem dX6_wall_57 : St mX6_wall 57 (.aload_n 0) 1 58 := ⟨by decide +kernel, rfl⟩
theorem dX6_wall_58 : St mX6_wall 58 (.getfield 10) 3 61 := ⟨by decide +kernel, rfl⟩
theorem dX6_wall_61 : St mX6_wall 61 (.getfield 69) 3 64 := ⟨by decide +kernel, rfl⟩
theorem dX6_wall_64 : St mX6_wall 64 (.getfield 91) 3 67 := ⟨by decide +kernel, rfl⟩
theorem dX6_wall_67 : St mX6_wall 67 (.iload_n 1) 1 68 := ⟨by decide +kernel, rfl⟩
theorem dX6_wall_68 : St mX6_wall 68 (.iaload) 1 69 := ⟨by decide +kernel, rfl⟩
theorem dX6_wall_69 : St mX6_wall 69 (.ireturn) 1 70 := ⟨by decide +kernel, rfl⟩
theorem dX6_wall_70 : St mX6_wall 70 (.bipush 100) 2 72 := ⟨by decide +kernel, rfl⟩
theorem dX6_wall_72 : St mX6_wall 72 (.aload_n 0) 1 73 := ⟨by decide +kernel, rfl⟩
theorem dX6_wall_73 : St mX6_wall 73 (.getfield 10) 3 76 := ⟨by decide +kernel, rfl⟩
theorem dX6_wall_76 : St mX6_wall 76 (.iload_n 1) 1 77 := ⟨by decide +kernel, rfl⟩
theorem dX6_wall_77 : St mX6_wall 77 (.aload_n 0) 1 78 := ⟨by decide +kernel, rfl⟩
theorem dX6_wall_78 : St mX6_wall 78 (.getfield 10) 3 81 := ⟨by decide +kernel, rfl⟩
theorem dX6_wall_81 : St mX6_wall 81 (.getfield 69) 3 84 := ⟨by decide +kernel, rfl⟩
theorem dX6_wall_84 : St mX6_wall 84 (.getfield 88) 3 87 := ⟨by decide +kernel, rfl⟩
theorem dX6_wall_87 : St mX6_wall 87 (.iload_n 1) 1 88 := ⟨by decide +kernel, rfl⟩
theorem dX6_wall_88 : St mX6_wall 88 (.iaload) 1 89 := ⟨by decide +kernel, rfl⟩
theorem dX6_wall_89 : St mX6_wall 89 (.invokevirtual 94) 3 92 := ⟨by decide +kernel, rfl⟩
theorem dX6_wall_92 : St mX6_wall 92 (.iadd) 1 93 := ⟨by decide +kernel, rfl⟩
theorem dX6_wall_93 : St mX6_wall 93 (.ireturn) 1 94 := ⟨by decide +kernel, rfl⟩
theorem dX6_wall_94 : St mX6_wall 94 (.aload_n 0) 1 95 := ⟨by decide +kernel, rfl⟩
theorem dX6_wall_95 : St mX6_wall 95 (.getfield 10) 3 98 := ⟨by decide +kernel, rfl⟩
theorem dX6_wall_98 : St mX6_wall 98 (.getfield 69) 3 101 := ⟨by decide +kernel, rfl⟩
theorem dX6_wall_101 : St mX6_wall 101 (.iload_n 1) 1 102 := ⟨by decide +kernel, rfl⟩
theorem dX6_wall_102 : St mX6_wall 102 (.invokevirtual 97) 3 105 := ⟨by decide +kernel, rfl⟩
theorem dX6_wall_105 : St mX6_wall 105 (.ireturn) 1 106 := ⟨by decide +kernel, rfl⟩
theorem dX6_wall_106 : St mX6_wall 106 (.iconst (-1)) 1 107 := ⟨by decide +kernel, rfl⟩
theorem dX6_wall_107 : St mX6_wall 107 (.ireturn) 1 108 := ⟨by decide +kernel, rfl⟩
theorem dX6_noise_0 : St mX6_noise 0 (.aload_n 0) 1 1 := ⟨by decide +kernel, rfl⟩
theorem dX6_noise_1 : St mX6_noise 1 (.getfield 10) 3 4 := ⟨by decide +kernel, rfl⟩
theorem dX6_noise_4 : St mX6_noise 4 (.iload_n 1) 1 5 := ⟨by decide +kernel, rfl⟩
theorem dX6_noise_5 : St mX6_noise 5 (.invokevirtual 58) 3 8 := ⟨by decide +kernel, rfl⟩
theorem dX6_noise_8 : St mX6_noise 8 (.ifCond .eq 13) 3 11 := ⟨by decide +kernel, rfl⟩
theorem dX6_noise_11 : St mX6_noise 11 (.iload_n 2) 1 12 := ⟨by decide +kernel, rfl⟩
theorem dX6_noise_12 : St mX6_noise 12 (.iconst 0) 1 13 := ⟨by decide +kernel, rfl⟩
theorem dX6_noise_13 : St mX6_noise 13 (.bipush 9) 2 15 := ⟨by decide +kernel, rfl⟩
theorem dX6_noise_15 : St mX6_noise 15 (.invokestatic 46) 3 18 := ⟨by decide +kernel, rfl⟩
theorem dX6_noise_18 : St mX6_noise 18 (.ifCond .ne 5) 3 21 := ⟨by decide +kernel, rfl⟩
theorem dX6_noise_21 : St mX6_noise 21 (.iconst (-1)) 1 22 := ⟨by decide +kernel, rfl⟩
theorem dX6_noise_22 : St mX6_noise 22 (.ireturn) 1 23 := ⟨by decide +kernel, rfl⟩
theorem dX6_noise_23 : St mX6_noise 23 (.aload_n 0) 1 24 := ⟨by decide +kernel, rfl⟩
theorem dX6_noise_24 : St mX6_noise 24 (.getfield 10) 3 27 := ⟨by decide +kernel, rfl⟩
theorem dX6_noise_27 : St mX6_noise 27 (.getfield 66) 3 30 := ⟨by decide +kernel, rfl⟩
theorem dX6_noise_30 : St mX6_noise 30 (.iload_n 1) 1 31 := ⟨by decide +kernel, rfl⟩
theorem dX6_noise_31 : St mX6_noise 31 (.iaload) 1 32 := ⟨by decide +kernel, rfl⟩
theorem dX6_noise_32 : St mX6_noise 32 (.istore_n 3) 1 33 := ⟨by decide +kernel, rfl⟩
theorem dX6_noise_33 : St mX6_noise 33 (.aload_n 0) 1 34 := ⟨by decide +kernel, rfl⟩
theorem dX6_noise_34 : St mX6_noise 34 (.getfield 10) 3 37 := ⟨by decide +kernel, rfl⟩
theorem dX6_noise_37 : St mX6_noise 37 (.getfield 66) 3 40 := ⟨by decide +kernel, rfl⟩
theorem dX6_noise_40 : St mX6_noise 40 (.iload_n 1) 1 41 := ⟨by decide +kernel, rfl⟩
theorem dX6_noise_41 : St mX6_noise 41 (.iload_n 2) 1 42 := ⟨by decide +kernel, rfl⟩
theorem dX6_noise_42 : St mX6_noise 42 (.iastore) 1 43 := ⟨by decide +kernel, rfl⟩
theorem dX6_noise_43 : St mX6_noise 43 (.iload_n 3) 1 44 := ⟨by decide +kernel, rfl⟩
theorem dX6_noise_44 : St mX6_noise 44 (.ireturn) 1 45 := ⟨by decide +kernel, rfl⟩
theorem dX6_rule_0 : St mX6_rule 0 (.iload_n 1) 1 1 := ⟨by decide +kernel, rfl⟩
theorem dX6_rule_1 : St mX6_rule 1 (.ifCond .ne 31) 3 4 := ⟨by decide +kernel, rfl⟩
theorem dX6_rule_4 : St mX6_rule 4 (.iload_n 2) 1 5 := ⟨by decide +kernel, rfl⟩
theorem dX6_rule_5 : St mX6_rule 5 (.iconst 2) 1 6 := ⟨by decide +kernel, rfl⟩
theorem dX6_rule_6 : St mX6_rule 6 (.bipush 52) 2 8 := ⟨by decide +kernel, rfl⟩
theorem dX6_rule_8 : St mX6_rule 8 (.invokestatic 46) 3 11 := ⟨by decide +kernel, rfl⟩
theorem dX6_rule_11 : St mX6_rule 11 (.ifCond .eq 21) 3 14 := ⟨by decide +kernel, rfl⟩
theorem dX6_rule_14 : St mX6_rule 14 (.aload_n 0) 1 15 := ⟨by decide +kernel, rfl⟩
theorem dX6_rule_15 : St mX6_rule 15 (.getfield 10) 3 18 := ⟨by decide +kernel, rfl⟩
theorem dX6_rule_18 : St mX6_rule 18 (.getfield 100) 3 21 := ⟨by decide +kernel, rfl⟩
theorem dX6_rule_21 : St mX6_rule 21 (.istore_n 3) 1 22 := ⟨by decide +kernel, rfl⟩
theorem dX6_rule_22 : St mX6_rule 22 (.aload_n 0) 1 23 := ⟨by decide +kernel, rfl⟩
theorem dX6_rule_23 : St mX6_rule 23 (.getfield 10) 3 26 := ⟨by decide +kernel, rfl⟩
theorem dX6_rule_26 : St mX6_rule 26 (.iload_n 2) 1 27 := ⟨by decide +kernel, rfl⟩
theorem dX6_rule_27 : St mX6_rule 27 (.putfield 100) 3 30 := ⟨by decide +kernel, rfl⟩
theorem dX6_rule_30 : St mX6_rule 30 (.iload_n 3) 1 31 := ⟨by decide +kernel, rfl⟩
theorem dX6_rule_31 : St mX6_rule 31 (.ireturn) 1 32 := ⟨by decide +kernel, rfl⟩
theorem dX6_rule_32 : St mX6_rule 32 (.iload_n 1) 1 33 := ⟨by decide +kernel, rfl⟩
theorem dX6_rule_33 : St mX6_rule 33 (.iconst 1) 1 34 := ⟨by decide +kernel, rfl⟩
theorem dX6_rule_34 : St mX6_rule 34 (.if_icmp .ne 31) 3 37 := ⟨by decide +kernel, rfl⟩
theorem dX6_rule_37 : St mX6_rule 37 (.iload_n 2) 1 38 := ⟨by decide +kernel, rfl⟩
theorem dX6_rule_38 : St mX6_rule 38 (.iconst 0) 1 39 := ⟨by decide +kernel, rfl⟩
theorem dX6_rule_39 : St mX6_rule 39 (.bipush 9) 2 41 := ⟨by decide +kernel, rfl⟩
theorem dX6_rule_41 : St mX6_rule 41 (.invokestatic 46) 3 44 := ⟨by decide +kernel, rfl⟩
theorem dX6_rule_44 : St mX6_rule 44 (.ifCond .eq 21) 3 47 := ⟨by decide +kernel, rfl⟩
theorem dX6_rule_47 : St mX6_rule 47 (.aload_n 0) 1 48 := ⟨by decide +kernel, rfl⟩
theorem dX6_rule_48 : St mX6_rule 48 (.getfield 10) 3 51 := ⟨by decide +kernel, rfl⟩
theorem dX6_rule_51 : St mX6_rule 51 (.getfield 103) 3 54 := ⟨by decide +kernel, rfl⟩
theorem dX6_rule_54 : St mX6_rule 54 (.istore_n 3) 1 55 := ⟨by decide +kernel, rfl⟩
theorem dX6_rule_55 : St mX6_rule 55 (.aload_n 0) 1 56 := ⟨by decide +kernel, rfl⟩
theorem dX6_rule_56 : St mX6_rule 56 (.getfield 10) 3 59 := ⟨by decide +kernel, rfl⟩
theorem dX6_rule_59 : St mX6_rule 59 (.iload_n 2) 1 60 := ⟨by decide +kernel, rfl⟩
theorem dX6_rule_60 : St mX6_rule 60 (.putfield 103) 3 63 := ⟨by decide +kernel, rfl⟩
theorem dX6_rule_63 : St mX6_rule 63 (.iload_n 3) 1 64 := ⟨by decide +kernel, rfl⟩
theorem dX6_rule_64 : St mX6_rule 64 (.ireturn) 1 65 := ⟨by decide +kernel, rfl⟩
theorem dX6_rule_65 : St mX6_rule 65 (.iconst (-1)) 1 66 := ⟨by decide +kernel, rfl⟩
theorem dX6_rule_66 : St mX6_rule 66 (.ireturn) 1 67 := ⟨by decide +kernel, rfl⟩
theorem dX6_type_0 : St mX6_type 0 (.iload_n 1) 1 1 := ⟨by decide +kernel, rfl⟩
theorem dX6_type_1 : St mX6_type 1 (.bipush 32) 2 3 := ⟨by decide +kernel, rfl⟩
theorem dX6_type_3 : St mX6_type 3 (.bipush 126) 2 5 := ⟨by decide +kernel, rfl⟩
theorem dX6_type_5 : St mX6_type 5 (.invokestatic 46) 3 8 := ⟨by decide +kernel, rfl⟩
theorem dX6_type_8 : St mX6_type 8 (.ifCond .ne 5) 3 11 := ⟨by decide +kernel, rfl⟩
theorem dX6_type_11 : St mX6_type 11 (.iconst (-1)) 1 12 := ⟨by decide +kernel, rfl⟩
theorem dX6_type_12 : St mX6_type 12 (.ireturn) 1 13 := ⟨by decide +kernel, rfl⟩
theorem dX6_type_13 : St mX6_type 13 (.aload_n 0) 1 14 := ⟨by decide +kernel, rfl⟩
theorem dX6_type_14 : St mX6_type 14 (.getfield 35) 3 17 := ⟨by decide +kernel, rfl⟩
theorem dX6_type_17 : St mX6_type 17 (.getfield 106) 3 20 := ⟨by decide +kernel, rfl⟩
theorem dX6_type_20 : St mX6_type 20 (.bipush 60) 2 22 := ⟨by decide +kernel, rfl⟩
theorem dX6_type_22 : St mX6_type 22 (.if_icmp .lt 6) 3 25 := ⟨by decide +kernel, rfl⟩
theorem dX6_type_25 : St mX6_type 25 (.bipush (-3)) 2 27 := ⟨by decide +kernel, rfl⟩
theorem dX6_type_27 : St mX6_type 27 (.ireturn) 1 28 := ⟨by decide +kernel, rfl⟩
theorem dX6_type_28 : St mX6_type 28 (.aload_n 0) 1 29 := ⟨by decide +kernel, rfl⟩
theorem dX6_type_29 : St mX6_type 29 (.getfield 35) 3 32 := ⟨by decide +kernel, rfl⟩
theorem dX6_type_32 : St mX6_type 32 (.iload_n 1) 1 33 := ⟨by decide +kernel, rfl⟩
theorem dX6_type_33 : St mX6_type 33 (.i2c) 1 34 := ⟨by decide +kernel, rfl⟩
theorem dX6_type_34 : St mX6_type 34 (.invokevirtual 109) 3 37 := ⟨by decide +kernel, rfl⟩
theorem dX6_type_37 : St mX6_type 37 (.ireturn) 1 38 := ⟨by decide +kernel, rfl⟩
theorem dX6_street_0 : St mX6_street 0 (.aload_n 0) 1 1 := ⟨by decide +kernel, rfl⟩
theorem dX6_street_1 : St mX6_street 1 (.getfield 35) 3 4 := ⟨by decide +kernel, rfl⟩
theorem dX6_street_4 : St mX6_street 4 (.invokevirtual 113) 3 7 := ⟨by decide +kernel, rfl⟩
theorem dX6_street_7 : St mX6_street 7 (.istore_n 1) 1 8 := ⟨by decide +kernel, rfl⟩
theorem dX6_street_8 : St mX6_street 8 (.aload_n 0) 1 9 := ⟨by decide +kernel, rfl⟩
theorem dX6_street_9 : St mX6_street 9 (.getfield 35) 3 12 := ⟨by decide +kernel, rfl⟩
theorem dX6_street_12 : St mX6_street 12 (.iconst 0) 1 13 := ⟨by decide +kernel, rfl⟩
theorem dX6_street_13 : St mX6_street 13 (.putfield 106) 3 16 := ⟨by decide +kernel, rfl⟩
theorem dX6_street_16 : St mX6_street 16 (.iload_n 1) 1 17 := ⟨by decide +kernel, rfl⟩
theorem dX6_street_17 : St mX6_street 17 (.ifCond .le 14) 3 20 := ⟨by decide +kernel, rfl⟩
theorem dX6_street_20 : St mX6_street 20 (.aload_n 0) 1 21 := ⟨by decide +kernel, rfl⟩
theorem dX6_street_21 : St mX6_street 21 (.getfield 10) 3 24 := ⟨by decide +kernel, rfl⟩
theorem dX6_street_24 : St mX6_street 24 (.aload_n 0) 1 25 := ⟨by decide +kernel, rfl⟩
theorem dX6_street_25 : St mX6_street 25 (.getfield 35) 3 28 := ⟨by decide +kernel, rfl⟩
theorem dX6_street_28 : St mX6_street 28 (.invokevirtual 117) 3 31 := ⟨by decide +kernel, rfl⟩
theorem dX6_street_31 : St mX6_street 31 (.iload_n 1) 1 32 := ⟨by decide +kernel, rfl⟩
theorem dX6_street_32 : St mX6_street 32 (.ireturn) 1 33 := ⟨by decide +kernel, rfl⟩
theorem dX6_count_0 : St mX6_count 0 (.iload_n 1) 1 1 := ⟨by decide +kernel, rfl⟩
theorem dX6_count_1 : St mX6_count 1 (.tableswitch 180 0 9 #[55, 63, 74, 82, 90, 111, 132, 153, 161, 169]) 55 56 := ⟨by decide +kernel, rfl⟩
theorem dX6_count_56 : St mX6_count 56 (.aload_n 0) 1 57 := ⟨by decide +kernel, rfl⟩
theorem dX6_count_57 : St mX6_count 57 (.getfield 10) 3 60 := ⟨by decide +kernel, rfl⟩
theorem dX6_count_60 : St mX6_count 60 (.getfield 50) 3 63 := ⟨by decide +kernel, rfl⟩
theorem dX6_count_63 : St mX6_count 63 (.ireturn) 1 64 := ⟨by decide +kernel, rfl⟩
theorem dX6_count_64 : St mX6_count 64 (.aload_n 0) 1 65 := ⟨by decide +kernel, rfl⟩
theorem dX6_count_65 : St mX6_count 65 (.getfield 10) 3 68 := ⟨by decide +kernel, rfl⟩
theorem dX6_count_68 : St mX6_count 68 (.getfield 69) 3 71 := ⟨by decide +kernel, rfl⟩
theorem dX6_count_71 : St mX6_count 71 (.getfield 121) 3 74 := ⟨by decide +kernel, rfl⟩
theorem dX6_count_74 : St mX6_count 74 (.ireturn) 1 75 := ⟨by decide +kernel, rfl⟩
theorem dX6_count_75 : St mX6_count 75 (.aload_n 0) 1 76 := ⟨by decide +kernel, rfl⟩
theorem dX6_count_76 : St mX6_count 76 (.getfield 10) 3 79 := ⟨by decide +kernel, rfl⟩
theorem dX6_count_79 : St mX6_count 79 (.getfield 100) 3 82 := ⟨by decide +kernel, rfl⟩
theorem dX6_count_82 : St mX6_count 82 (.ireturn) 1 83 := ⟨by decide +kernel, rfl⟩
theorem dX6_count_83 : St mX6_count 83 (.aload_n 0) 1 84 := ⟨by decide +kernel, rfl⟩
theorem dX6_count_84 : St mX6_count 84 (.getfield 10) 3 87 := ⟨by decide +kernel, rfl⟩
theorem dX6_count_87 : St mX6_count 87 (.getfield 103) 3 90 := ⟨by decide +kernel, rfl⟩
theorem dX6_count_90 : St mX6_count 90 (.ireturn) 1 91 := ⟨by decide +kernel, rfl⟩
theorem dX6_count_91 : St mX6_count 91 (.aload_n 0) 1 92 := ⟨by decide +kernel, rfl⟩
theorem dX6_count_92 : St mX6_count 92 (.getfield 10) 3 95 := ⟨by decide +kernel, rfl⟩
theorem dX6_count_95 : St mX6_count 95 (.getfield 69) 3 98 := ⟨by decide +kernel, rfl⟩
theorem dX6_count_98 : St mX6_count 98 (.getfield 88) 3 101 := ⟨by decide +kernel, rfl⟩
theorem dX6_count_101 : St mX6_count 101 (.aload_n 0) 1 102 := ⟨by decide +kernel, rfl⟩
theorem dX6_count_102 : St mX6_count 102 (.getfield 10) 3 105 := ⟨by decide +kernel, rfl⟩
theorem dX6_count_105 : St mX6_count 105 (.invokevirtual 124) 3 108 := ⟨by decide +kernel, rfl⟩
theorem dX6_count_108 : St mX6_count 108 (.invokestatic 127) 3 111 := ⟨by decide +kernel, rfl⟩
theorem dX6_count_111 : St mX6_count 111 (.ireturn) 1 112 := ⟨by decide +kernel, rfl⟩
theorem dX6_count_112 : St mX6_count 112 (.aload_n 0) 1 113 := ⟨by decide +kernel, rfl⟩
theorem dX6_count_113 : St mX6_count 113 (.getfield 10) 3 116 := ⟨by decide +kernel, rfl⟩
theorem dX6_count_116 : St mX6_count 116 (.getfield 69) 3 119 := ⟨by decide +kernel, rfl⟩
theorem dX6_count_119 : St mX6_count 119 (.getfield 91) 3 122 := ⟨by decide +kernel, rfl⟩
theorem dX6_count_122 : St mX6_count 122 (.aload_n 0) 1 123 := ⟨by decide +kernel, rfl⟩
theorem dX6_count_123 : St mX6_count 123 (.getfield 10) 3 126 := ⟨by decide +kernel, rfl⟩
theorem dX6_count_126 : St mX6_count 126 (.invokevirtual 124) 3 129 := ⟨by decide +kernel, rfl⟩
theorem dX6_count_129 : St mX6_count 129 (.invokestatic 127) 3 132 := ⟨by decide +kernel, rfl⟩
theorem dX6_count_132 : St mX6_count 132 (.ireturn) 1 133 := ⟨by decide +kernel, rfl⟩
theorem dX6_count_133 : St mX6_count 133 (.aload_n 0) 1 134 := ⟨by decide +kernel, rfl⟩
theorem dX6_count_134 : St mX6_count 134 (.getfield 10) 3 137 := ⟨by decide +kernel, rfl⟩
theorem dX6_count_137 : St mX6_count 137 (.getfield 69) 3 140 := ⟨by decide +kernel, rfl⟩
theorem dX6_count_140 : St mX6_count 140 (.getfield 73) 3 143 := ⟨by decide +kernel, rfl⟩
theorem dX6_count_143 : St mX6_count 143 (.aload_n 0) 1 144 := ⟨by decide +kernel, rfl⟩
theorem dX6_count_144 : St mX6_count 144 (.getfield 10) 3 147 := ⟨by decide +kernel, rfl⟩
theorem dX6_count_147 : St mX6_count 147 (.getfield 50) 3 150 := ⟨by decide +kernel, rfl⟩
theorem dX6_count_150 : St mX6_count 150 (.invokestatic 127) 3 153 := ⟨by decide +kernel, rfl⟩
theorem dX6_count_153 : St mX6_count 153 (.ireturn) 1 154 := ⟨by decide +kernel, rfl⟩
theorem dX6_count_154 : St mX6_count 154 (.aload_n 0) 1 155 := ⟨by decide +kernel, rfl⟩
theorem dX6_count_155 : St mX6_count 155 (.getfield 10) 3 158 := ⟨by decide +kernel, rfl⟩
theorem dX6_count_158 : St mX6_count 158 (.invokevirtual 131) 3 161 := ⟨by decide +kernel, rfl⟩
theorem dX6_count_161 : St mX6_count 161 (.ireturn) 1 162 := ⟨by decide +kernel, rfl⟩
theorem dX6_count_162 : St mX6_count 162 (.aload_n 0) 1 163 := ⟨by decide +kernel, rfl⟩
theorem dX6_count_163 : St mX6_count 163 (.getfield 10) 3 166 := ⟨by decide +kernel, rfl⟩
theorem dX6_count_166 : St mX6_count 166 (.invokevirtual 134) 3 169 := ⟨by decide +kernel, rfl⟩
theorem dX6_count_169 : St mX6_count 169 (.ireturn) 1 170 := ⟨by decide +kernel, rfl⟩
theorem dX6_count_170 : St mX6_count 170 (.aload_n 0) 1 171 := ⟨by decide +kernel, rfl⟩
theorem dX6_count_171 : St mX6_count 171 (.getfield 10) 3 174 := ⟨by decide +kernel, rfl⟩
theorem dX6_count_174 : St mX6_count 174 (.getfield 137) 3 177 := ⟨by decide +kernel, rfl⟩
theorem dX6_count_177 : St mX6_count 177 (.getfield 141) 3 180 := ⟨by decide +kernel, rfl⟩
theorem dX6_count_180 : St mX6_count 180 (.ireturn) 1 181 := ⟨by decide +kernel, rfl⟩
theorem dX6_count_181 : St mX6_count 181 (.iconst (-1)) 1 182 := ⟨by decide +kernel, rfl⟩
theorem dX6_count_182 : St mX6_count 182 (.ireturn) 1 183 := ⟨by decide +kernel, rfl⟩
theorem dX6_weeks_0 : St mX6_weeks 0 (.aload_n 0) 1 1 := ⟨by decide +kernel, rfl⟩
theorem dX6_weeks_1 : St mX6_weeks 1 (.iload_n 1) 1 2 := ⟨by decide +kernel, rfl⟩
theorem dX6_weeks_2 : St mX6_weeks 2 (.invokevirtual 146) 3 5 := ⟨by decide +kernel, rfl⟩
theorem dX6_weeks_5 : St mX6_weeks 5 (.istore_n 2) 1 6 := ⟨by decide +kernel, rfl⟩
theorem dX6_weeks_6 : St mX6_weeks 6 (.iload_n 2) 1 7 := ⟨by decide +kernel, rfl⟩
theorem dX6_weeks_7 : St mX6_weeks 7 (.ifCond .eq 5) 3 10 := ⟨by decide +kernel, rfl⟩
theorem dX6_weeks_10 : St mX6_weeks 10 (.iload_n 2) 1 11 := ⟨by decide +kernel, rfl⟩
theorem dX6_weeks_11 : St mX6_weeks 11 (.ireturn) 1 12 := ⟨by decide +kernel, rfl⟩
theorem dX6_weeks_12 : St mX6_weeks 12 (.iconst 0) 1 13 := ⟨by decide +kernel, rfl⟩
theorem dX6_weeks_13 : St mX6_weeks 13 (.istore_n 3) 1 14 := ⟨by decide +kernel, rfl⟩
theorem dX6_weeks_14 : St mX6_weeks 14 (.iload_n 3) 1 15 := ⟨by decide +kernel, rfl⟩
theorem dX6_weeks_15 : St mX6_weeks 15 (.iload_n 1) 1 16 := ⟨by decide +kernel, rfl⟩
theorem dX6_weeks_16 : St mX6_weeks 16 (.if_icmp .ge 23) 3 19 := ⟨by decide +kernel, rfl⟩
theorem dX6_weeks_19 : St mX6_weeks 19 (.aload_n 0) 1 20 := ⟨by decide +kernel, rfl⟩
theorem dX6_weeks_20 : St mX6_weeks 20 (.getfield 10) 3 23 := ⟨by decide +kernel, rfl⟩
theorem dX6_weeks_23 : St mX6_weeks 23 (.invokevirtual 149) 3 26 := ⟨by decide +kernel, rfl⟩
theorem dX6_weeks_26 : St mX6_weeks 26 (.aload_n 0) 1 27 := ⟨by decide +kernel, rfl⟩
theorem dX6_weeks_27 : St mX6_weeks 27 (.getfield 10) 3 30 := ⟨by decide +kernel, rfl⟩
theorem dX6_weeks_30 : St mX6_weeks 30 (.invokevirtual 152) 3 33 := ⟨by decide +kernel, rfl⟩
theorem dX6_weeks_33 : St mX6_weeks 33 (.iinc 3 1) 3 36 := ⟨by decide +kernel, rfl⟩
theorem dX6_weeks_36 : St mX6_weeks 36 (.goto (-22)) 3 39 := ⟨by decide +kernel, rfl⟩
theorem dX6_weeks_39 : St mX6_weeks 39 (.aload_n 0) 1 40 := ⟨by decide +kernel, rfl⟩
theorem dX6_weeks_40 : St mX6_weeks 40 (.getfield 10) 3 43 := ⟨by decide +kernel, rfl⟩
theorem dX6_weeks_43 : St mX6_weeks 43 (.getfield 69) 3 46 := ⟨by decide +kernel, rfl⟩
theorem dX6_weeks_46 : St mX6_weeks 46 (.getfield 88) 3 49 := ⟨by decide +kernel, rfl⟩
theorem dX6_weeks_49 : St mX6_weeks 49 (.aload_n 0) 1 50 := ⟨by decide +kernel, rfl⟩
theorem dX6_weeks_50 : St mX6_weeks 50 (.getfield 10) 3 53 := ⟨by decide +kernel, rfl⟩
theorem dX6_weeks_53 : St mX6_weeks 53 (.invokevirtual 124) 3 56 := ⟨by decide +kernel, rfl⟩
theorem dX6_weeks_56 : St mX6_weeks 56 (.invokestatic 127) 3 59 := ⟨by decide +kernel, rfl⟩
theorem dX6_weeks_59 : St mX6_weeks 59 (.ireturn) 1 60 := ⟨by decide +kernel, rfl⟩
theorem dX6_sorry_0 : St mX6_sorry 0 (.aload_n 0) 1 1 := ⟨by decide +kernel, rfl⟩
theorem dX6_sorry_1 : St mX6_sorry 1 (.getfield 10) 3 4 := ⟨by decide +kernel, rfl⟩
theorem dX6_sorry_4 : St mX6_sorry 4 (.iload_n 1) 1 5 := ⟨by decide +kernel, rfl⟩
theorem dX6_sorry_5 : St mX6_sorry 5 (.invokevirtual 85) 3 8 := ⟨by decide +kernel, rfl⟩
theorem dX6_sorry_8 : St mX6_sorry 8 (.ifCond .ne 5) 3 11 := ⟨by decide +kernel, rfl⟩
theorem dX6_sorry_11 : St mX6_sorry 11 (.iconst (-1)) 1 12 := ⟨by decide +kernel, rfl⟩
theorem dX6_sorry_12 : St mX6_sorry 12 (.ireturn) 1 13 := ⟨by decide +kernel, rfl⟩
theorem dX6_sorry_13 : St mX6_sorry 13 (.aload_n 0) 1 14 := ⟨by decide +kernel, rfl⟩
theorem dX6_sorry_14 : St mX6_sorry 14 (.getfield 10) 3 17 := ⟨by decide +kernel, rfl⟩
theorem dX6_sorry_17 : St mX6_sorry 17 (.getfield 69) 3 20 := ⟨by decide +kernel, rfl⟩
theorem dX6_sorry_20 : St mX6_sorry 20 (.iload_n 1) 1 21 := ⟨by decide +kernel, rfl⟩
theorem dX6_sorry_21 : St mX6_sorry 21 (.invokevirtual 97) 3 24 := ⟨by decide +kernel, rfl⟩
theorem dX6_sorry_24 : St mX6_sorry 24 (.ifCond .le 6) 3 27 := ⟨by decide +kernel, rfl⟩
theorem dX6_sorry_27 : St mX6_sorry 27 (.bipush (-2)) 2 29 := ⟨by decide +kernel, rfl⟩
theorem dX6_sorry_29 : St mX6_sorry 29 (.ireturn) 1 30 := ⟨by decide +kernel, rfl⟩
theorem dX6_sorry_30 : St mX6_sorry 30 (.aload_n 0) 1 31 := ⟨by decide +kernel, rfl⟩
theorem dX6_sorry_31 : St mX6_sorry 31 (.getfield 10) 3 34 := ⟨by decide +kernel, rfl⟩
theorem dX6_sorry_34 : St mX6_sorry 34 (.invokevirtual 149) 3 37 := ⟨by decide +kernel, rfl⟩
theorem dX6_sorry_37 : St mX6_sorry 37 (.aload_n 0) 1 38 := ⟨by decide +kernel, rfl⟩
theorem dX6_sorry_38 : St mX6_sorry 38 (.getfield 10) 3 41 := ⟨by decide +kernel, rfl⟩
theorem dX6_sorry_41 : St mX6_sorry 41 (.iload_n 1) 1 42 := ⟨by decide +kernel, rfl⟩
theorem dX6_sorry_42 : St mX6_sorry 42 (.invokevirtual 155) 3 45 := ⟨by decide +kernel, rfl⟩
theorem dX6_sorry_45 : St mX6_sorry 45 (.ireturn) 1 46 := ⟨by decide +kernel, rfl⟩
theorem dX6_gift_0 : St mX6_gift 0 (.aload_n 0) 1 1 := ⟨by decide +kernel, rfl⟩
theorem dX6_gift_1 : St mX6_gift 1 (.getfield 10) 3 4 := ⟨by decide +kernel, rfl⟩
theorem dX6_gift_4 : St mX6_gift 4 (.iload_n 1) 1 5 := ⟨by decide +kernel, rfl⟩
theorem dX6_gift_5 : St mX6_gift 5 (.invokevirtual 85) 3 8 := ⟨by decide +kernel, rfl⟩
theorem dX6_gift_8 : St mX6_gift 8 (.ifCond .eq 23) 3 11 := ⟨by decide +kernel, rfl⟩
theorem dX6_gift_11 : St mX6_gift 11 (.iload_n 2) 1 12 := ⟨by decide +kernel, rfl⟩
theorem dX6_gift_12 : St mX6_gift 12 (.iconst 0) 1 13 := ⟨by decide +kernel, rfl⟩
theorem dX6_gift_13 : St mX6_gift 13 (.iconst 1) 1 14 := ⟨by decide +kernel, rfl⟩
theorem dX6_gift_14 : St mX6_gift 14 (.invokestatic 46) 3 17 := ⟨by decide +kernel, rfl⟩
theorem dX6_gift_17 : St mX6_gift 17 (.ifCond .eq 14) 3 20 := ⟨by decide +kernel, rfl⟩
theorem dX6_gift_20 : St mX6_gift 20 (.iload_n 3) 1 21 := ⟨by decide +kernel, rfl⟩
theorem dX6_gift_21 : St mX6_gift 21 (.iconst 1) 1 22 := ⟨by decide +kernel, rfl⟩
theorem dX6_gift_22 : St mX6_gift 22 (.sipush 400) 3 25 := ⟨by decide +kernel, rfl⟩
theorem dX6_gift_25 : St mX6_gift 25 (.invokestatic 46) 3 28 := ⟨by decide +kernel, rfl⟩
theorem dX6_gift_28 : St mX6_gift 28 (.ifCond .ne 5) 3 31 := ⟨by decide +kernel, rfl⟩
theorem dX6_gift_31 : St mX6_gift 31 (.iconst (-1)) 1 32 := ⟨by decide +kernel, rfl⟩
theorem dX6_gift_32 : St mX6_gift 32 (.ireturn) 1 33 := ⟨by decide +kernel, rfl⟩
theorem dX6_gift_33 : St mX6_gift 33 (.aload_n 0) 1 34 := ⟨by decide +kernel, rfl⟩
theorem dX6_gift_34 : St mX6_gift 34 (.getfield 10) 3 37 := ⟨by decide +kernel, rfl⟩
theorem dX6_gift_37 : St mX6_gift 37 (.invokevirtual 149) 3 40 := ⟨by decide +kernel, rfl⟩
theorem dX6_gift_40 : St mX6_gift 40 (.aload_n 0) 1 41 := ⟨by decide +kernel, rfl⟩
theorem dX6_gift_41 : St mX6_gift 41 (.getfield 10) 3 44 := ⟨by decide +kernel, rfl⟩
theorem dX6_gift_44 : St mX6_gift 44 (.getfield 69) 3 47 := ⟨by decide +kernel, rfl⟩
theorem dX6_gift_47 : St mX6_gift 47 (.getfield 73) 3 50 := ⟨by decide +kernel, rfl⟩
theorem dX6_gift_50 : St mX6_gift 50 (.iload_n 1) 1 51 := ⟨by decide +kernel, rfl⟩
theorem dX6_gift_51 : St mX6_gift 51 (.iload_n 2) 1 52 := ⟨by decide +kernel, rfl⟩
theorem dX6_gift_52 : St mX6_gift 52 (.iadd) 1 53 := ⟨by decide +kernel, rfl⟩
theorem dX6_gift_53 : St mX6_gift 53 (.dup2) 1 54 := ⟨by decide +kernel, rfl⟩
theorem dX6_gift_54 : St mX6_gift 54 (.iaload) 1 55 := ⟨by decide +kernel, rfl⟩
theorem dX6_gift_55 : St mX6_gift 55 (.iload_n 3) 1 56 := ⟨by decide +kernel, rfl⟩
theorem dX6_gift_56 : St mX6_gift 56 (.iadd) 1 57 := ⟨by decide +kernel, rfl⟩
theorem dX6_gift_57 : St mX6_gift 57 (.iastore) 1 58 := ⟨by decide +kernel, rfl⟩
theorem dX6_gift_58 : St mX6_gift 58 (.aload_n 0) 1 59 := ⟨by decide +kernel, rfl⟩
theorem dX6_gift_59 : St mX6_gift 59 (.getfield 10) 3 62 := ⟨by decide +kernel, rfl⟩
theorem dX6_gift_62 : St mX6_gift 62 (.iload_n 1) 1 63 := ⟨by decide +kernel, rfl⟩
theorem dX6_gift_63 : St mX6_gift 63 (.iload_n 3) 1 64 := ⟨by decide +kernel, rfl⟩
theorem dX6_gift_64 : St mX6_gift 64 (.invokestatic 158) 3 67 := ⟨by decide +kernel, rfl⟩
theorem dX6_gift_67 : St mX6_gift 67 (.ineg) 1 68 := ⟨by decide +kernel, rfl⟩
theorem dX6_gift_68 : St mX6_gift 68 (.invokevirtual 161) 3 71 := ⟨by decide +kernel, rfl⟩
theorem dX6_gift_71 : St mX6_gift 71 (.ireturn) 1 72 := ⟨by decide +kernel, rfl⟩
theorem dX6_gossip_0 : St mX6_gossip 0 (.aload_n 0) 1 1 := ⟨by decide +kernel, rfl⟩
theorem dX6_gossip_1 : St mX6_gossip 1 (.getfield 10) 3 4 := ⟨by decide +kernel, rfl⟩
theorem dX6_gossip_4 : St mX6_gossip 4 (.iload_n 1) 1 5 := ⟨by decide +kernel, rfl⟩
theorem dX6_gossip_5 : St mX6_gossip 5 (.invokevirtual 85) 3 8 := ⟨by decide +kernel, rfl⟩
theorem dX6_gossip_8 : St mX6_gossip 8 (.ifCond .eq 13) 3 11 := ⟨by decide +kernel, rfl⟩
theorem dX6_gossip_11 : St mX6_gossip 11 (.iload_n 2) 1 12 := ⟨by decide +kernel, rfl⟩
theorem dX6_gossip_12 : St mX6_gossip 12 (.iconst 1) 1 13 := ⟨by decide +kernel, rfl⟩
theorem dX6_gossip_13 : St mX6_gossip 13 (.bipush 9) 2 15 := ⟨by decide +kernel, rfl⟩
theorem dX6_gossip_15 : St mX6_gossip 15 (.invokestatic 46) 3 18 := ⟨by decide +kernel, rfl⟩
theorem dX6_gossip_18 : St mX6_gossip 18 (.ifCond .ne 5) 3 21 := ⟨by decide +kernel, rfl⟩
theorem dX6_gossip_21 : St mX6_gossip 21 (.iconst (-1)) 1 22 := ⟨by decide +kernel, rfl⟩
theorem dX6_gossip_22 : St mX6_gossip 22 (.ireturn) 1 23 := ⟨by decide +kernel, rfl⟩
theorem dX6_gossip_23 : St mX6_gossip 23 (.aload_n 0) 1 24 := ⟨by decide +kernel, rfl⟩
theorem dX6_gossip_24 : St mX6_gossip 24 (.getfield 10) 3 27 := ⟨by decide +kernel, rfl⟩
theorem dX6_gossip_27 : St mX6_gossip 27 (.invokevirtual 149) 3 30 := ⟨by decide +kernel, rfl⟩
theorem dX6_gossip_30 : St mX6_gossip 30 (.aload_n 0) 1 31 := ⟨by decide +kernel, rfl⟩
theorem dX6_gossip_31 : St mX6_gossip 31 (.getfield 10) 3 34 := ⟨by decide +kernel, rfl⟩
theorem dX6_gossip_34 : St mX6_gossip 34 (.iload_n 1) 1 35 := ⟨by decide +kernel, rfl⟩
theorem dX6_gossip_35 : St mX6_gossip 35 (.iload_n 2) 1 36 := ⟨by decide +kernel, rfl⟩
theorem dX6_gossip_36 : St mX6_gossip 36 (.invokevirtual 161) 3 39 := ⟨by decide +kernel, rfl⟩
theorem dX6_gossip_39 : St mX6_gossip 39 (.ireturn) 1 40 := ⟨by decide +kernel, rfl⟩
theorem dX6_lovers_0 : St mX6_lovers 0 (.aload_n 0) 1 1 := ⟨by decide +kernel, rfl⟩
theorem dX6_lovers_1 : St mX6_lovers 1 (.getfield 10) 3 4 := ⟨by decide +kernel, rfl⟩
theorem dX6_lovers_4 : St mX6_lovers 4 (.iload_n 1) 1 5 := ⟨by decide +kernel, rfl⟩
theorem dX6_lovers_5 : St mX6_lovers 5 (.invokevirtual 85) 3 8 := ⟨by decide +kernel, rfl⟩
theorem dX6_lovers_8 : St mX6_lovers 8 (.ifCond .ne 5) 3 11 := ⟨by decide +kernel, rfl⟩
theorem dX6_lovers_11 : St mX6_lovers 11 (.iconst (-1)) 1 12 := ⟨by decide +kernel, rfl⟩
theorem dX6_lovers_12 : St mX6_lovers 12 (.ireturn) 1 13 := ⟨by decide +kernel, rfl⟩
theorem dX6_lovers_13 : St mX6_lovers 13 (.aload_n 0) 1 14 := ⟨by decide +kernel, rfl⟩
theorem dX6_lovers_14 : St mX6_lovers 14 (.getfield 10) 3 17 := ⟨by decide +kernel, rfl⟩
theorem dX6_lovers_17 : St mX6_lovers 17 (.getfield 69) 3 20 := ⟨by decide +kernel, rfl⟩
theorem dX6_lovers_20 : St mX6_lovers 20 (.getfield 88) 3 23 := ⟨by decide +kernel, rfl⟩
theorem dX6_lovers_23 : St mX6_lovers 23 (.iload_n 1) 1 24 := ⟨by decide +kernel, rfl⟩
theorem dX6_lovers_24 : St mX6_lovers 24 (.iaload) 1 25 := ⟨by decide +kernel, rfl⟩
theorem dX6_lovers_25 : St mX6_lovers 25 (.ifCond .gt 6) 3 28 := ⟨by decide +kernel, rfl⟩
theorem dX6_lovers_28 : St mX6_lovers 28 (.bipush (-2)) 2 30 := ⟨by decide +kernel, rfl⟩
theorem dX6_lovers_30 : St mX6_lovers 30 (.ireturn) 1 31 := ⟨by decide +kernel, rfl⟩
theorem dX6_lovers_31 : St mX6_lovers 31 (.aload_n 0) 1 32 := ⟨by decide +kernel, rfl⟩
theorem dX6_lovers_32 : St mX6_lovers 32 (.getfield 10) 3 35 := ⟨by decide +kernel, rfl⟩
theorem dX6_lovers_35 : St mX6_lovers 35 (.invokevirtual 149) 3 38 := ⟨by decide +kernel, rfl⟩
theorem dX6_lovers_38 : St mX6_lovers 38 (.aload_n 0) 1 39 := ⟨by decide +kernel, rfl⟩
theorem dX6_lovers_39 : St mX6_lovers 39 (.getfield 10) 3 42 := ⟨by decide +kernel, rfl⟩
theorem dX6_lovers_42 : St mX6_lovers 42 (.getfield 69) 3 45 := ⟨by decide +kernel, rfl⟩
theorem dX6_lovers_45 : St mX6_lovers 45 (.getfield 88) 3 48 := ⟨by decide +kernel, rfl⟩
theorem dX6_lovers_48 : St mX6_lovers 48 (.iload_n 1) 1 49 := ⟨by decide +kernel, rfl⟩
theorem dX6_lovers_49 : St mX6_lovers 49 (.dup2) 1 50 := ⟨by decide +kernel, rfl⟩
theorem dX6_lovers_50 : St mX6_lovers 50 (.iaload) 1 51 := ⟨by decide +kernel, rfl⟩
theorem dX6_lovers_51 : St mX6_lovers 51 (.iconst 1) 1 52 := ⟨by decide +kernel, rfl⟩
theorem dX6_lovers_52 : St mX6_lovers 52 (.isub) 1 53 := ⟨by decide +kernel, rfl⟩
theorem dX6_lovers_53 : St mX6_lovers 53 (.iastore) 1 54 := ⟨by decide +kernel, rfl⟩
theorem dX6_lovers_54 : St mX6_lovers 54 (.aload_n 0) 1 55 := ⟨by decide +kernel, rfl⟩
theorem dX6_lovers_55 : St mX6_lovers 55 (.getfield 10) 3 58 := ⟨by decide +kernel, rfl⟩
theorem dX6_lovers_58 : St mX6_lovers 58 (.getfield 69) 3 61 := ⟨by decide +kernel, rfl⟩
theorem dX6_lovers_61 : St mX6_lovers 61 (.getfield 88) 3 64 := ⟨by decide +kernel, rfl⟩
theorem dX6_lovers_64 : St mX6_lovers 64 (.iload_n 1) 1 65 := ⟨by decide +kernel, rfl⟩
theorem dX6_lovers_65 : St mX6_lovers 65 (.iaload) 1 66 := ⟨by decide +kernel, rfl⟩
theorem dX6_lovers_66 : St mX6_lovers 66 (.ireturn) 1 67 := ⟨by decide +kernel, rfl⟩
theorem dX6_falls_0 : St mX6_falls 0 (.aload_n 0) 1 1 := ⟨by decide +kernel, rfl⟩
theorem dX6_falls_1 : St mX6_falls 1 (.getfield 10) 3 4 := ⟨by decide +kernel, rfl⟩
theorem dX6_falls_4 : St mX6_falls 4 (.iload_n 1) 1 5 := ⟨by decide +kernel, rfl⟩
theorem dX6_falls_5 : St mX6_falls 5 (.invokevirtual 85) 3 8 := ⟨by decide +kernel, rfl⟩
theorem dX6_falls_8 : St mX6_falls 8 (.ifCond .ne 5) 3 11 := ⟨by decide +kernel, rfl⟩
theorem dX6_falls_11 : St mX6_falls 11 (.iconst (-1)) 1 12 := ⟨by decide +kernel, rfl⟩
theorem dX6_falls_12 : St mX6_falls 12 (.ireturn) 1 13 := ⟨by decide +kernel, rfl⟩
theorem dX6_falls_13 : St mX6_falls 13 (.aload_n 0) 1 14 := ⟨by decide +kernel, rfl⟩
theorem dX6_falls_14 : St mX6_falls 14 (.getfield 10) 3 17 := ⟨by decide +kernel, rfl⟩
theorem dX6_falls_17 : St mX6_falls 17 (.getfield 69) 3 20 := ⟨by decide +kernel, rfl⟩
theorem dX6_falls_20 : St mX6_falls 20 (.getfield 88) 3 23 := ⟨by decide +kernel, rfl⟩
theorem dX6_falls_23 : St mX6_falls 23 (.iload_n 1) 1 24 := ⟨by decide +kernel, rfl⟩
theorem dX6_falls_24 : St mX6_falls 24 (.iaload) 1 25 := ⟨by decide +kernel, rfl⟩
theorem dX6_falls_25 : St mX6_falls 25 (.ifCond .gt 6) 3 28 := ⟨by decide +kernel, rfl⟩
theorem dX6_falls_28 : St mX6_falls 28 (.bipush (-2)) 2 30 := ⟨by decide +kernel, rfl⟩
theorem dX6_falls_30 : St mX6_falls 30 (.ireturn) 1 31 := ⟨by decide +kernel, rfl⟩
theorem dX6_falls_31 : St mX6_falls 31 (.aload_n 0) 1 32 := ⟨by decide +kernel, rfl⟩
theorem dX6_falls_32 : St mX6_falls 32 (.getfield 10) 3 35 := ⟨by decide +kernel, rfl⟩
theorem dX6_falls_35 : St mX6_falls 35 (.invokevirtual 149) 3 38 := ⟨by decide +kernel, rfl⟩
theorem dX6_falls_38 : St mX6_falls 38 (.aload_n 0) 1 39 := ⟨by decide +kernel, rfl⟩
theorem dX6_falls_39 : St mX6_falls 39 (.getfield 10) 3 42 := ⟨by decide +kernel, rfl⟩
theorem dX6_falls_42 : St mX6_falls 42 (.iload_n 1) 1 43 := ⟨by decide +kernel, rfl⟩
theorem dX6_falls_43 : St mX6_falls 43 (.invokevirtual 164) 3 46 := ⟨by decide +kernel, rfl⟩
theorem dX6_falls_46 : St mX6_falls 46 (.ireturn) 1 47 := ⟨by decide +kernel, rfl⟩
theorem dX6_drift_0 : St mX6_drift 0 (.aload_n 0) 1 1 := ⟨by decide +kernel, rfl⟩
theorem dX6_drift_1 : St mX6_drift 1 (.iload_n 1) 1 2 := ⟨by decide +kernel, rfl⟩
theorem dX6_drift_2 : St mX6_drift 2 (.invokevirtual 146) 3 5 := ⟨by decide +kernel, rfl⟩
theorem dX6_drift_5 : St mX6_drift 5 (.istore_n 2) 1 6 := ⟨by decide +kernel, rfl⟩
theorem dX6_drift_6 : St mX6_drift 6 (.iload_n 2) 1 7 := ⟨by decide +kernel, rfl⟩
theorem dX6_drift_7 : St mX6_drift 7 (.ifCond .eq 5) 3 10 := ⟨by decide +kernel, rfl⟩
theorem dX6_drift_10 : St mX6_drift 10 (.iload_n 2) 1 11 := ⟨by decide +kernel, rfl⟩
theorem dX6_drift_11 : St mX6_drift 11 (.ireturn) 1 12 := ⟨by decide +kernel, rfl⟩
theorem dX6_drift_12 : St mX6_drift 12 (.iconst 0) 1 13 := ⟨by decide +kernel, rfl⟩
theorem dX6_drift_13 : St mX6_drift 13 (.istore_n 3) 1 14 := ⟨by decide +kernel, rfl⟩
theorem dX6_drift_14 : St mX6_drift 14 (.iconst 0) 1 15 := ⟨by decide +kernel, rfl⟩
theorem dX6_drift_15 : St mX6_drift 15 (.istore 4) 2 17 := ⟨by decide +kernel, rfl⟩
theorem dX6_drift_17 : St mX6_drift 17 (.iload 4) 2 19 := ⟨by decide +kernel, rfl⟩
theorem dX6_drift_19 : St mX6_drift 19 (.iload_n 1) 1 20 := ⟨by decide +kernel, rfl⟩
theorem dX6_drift_20 : St mX6_drift 20 (.if_icmp .ge 33) 3 23 := ⟨by decide +kernel, rfl⟩
theorem dX6_drift_23 : St mX6_drift 23 (.aload_n 0) 1 24 := ⟨by decide +kernel, rfl⟩
theorem dX6_drift_24 : St mX6_drift 24 (.getfield 10) 3 27 := ⟨by decide +kernel, rfl⟩
theorem dX6_drift_27 : St mX6_drift 27 (.invokevirtual 149) 3 30 := ⟨by decide +kernel, rfl⟩
theorem dX6_drift_30 : St mX6_drift 30 (.aload_n 0) 1 31 := ⟨by decide +kernel, rfl⟩
theorem dX6_drift_31 : St mX6_drift 31 (.getfield 10) 3 34 := ⟨by decide +kernel, rfl⟩
theorem dX6_drift_34 : St mX6_drift 34 (.invokevirtual 152) 3 37 := ⟨by decide +kernel, rfl⟩
theorem dX6_drift_37 : St mX6_drift 37 (.iload_n 3) 1 38 := ⟨by decide +kernel, rfl⟩
theorem dX6_drift_38 : St mX6_drift 38 (.aload_n 0) 1 39 := ⟨by decide +kernel, rfl⟩
theorem dX6_drift_39 : St mX6_drift 39 (.getfield 10) 3 42 := ⟨by decide +kernel, rfl⟩
theorem dX6_drift_42 : St mX6_drift 42 (.invokevirtual 167) 3 45 := ⟨by decide +kernel, rfl⟩
theorem dX6_drift_45 : St mX6_drift 45 (.iadd) 1 46 := ⟨by decide +kernel, rfl⟩
theorem dX6_drift_46 : St mX6_drift 46 (.istore_n 3) 1 47 := ⟨by decide +kernel, rfl⟩
theorem dX6_drift_47 : St mX6_drift 47 (.iinc 4 1) 3 50 := ⟨by decide +kernel, rfl⟩
theorem dX6_drift_50 : St mX6_drift 50 (.goto (-33)) 3 53 := ⟨by decide +kernel, rfl⟩
theorem dX6_drift_53 : St mX6_drift 53 (.iload_n 3) 1 54 := ⟨by decide +kernel, rfl⟩
theorem dX6_drift_54 : St mX6_drift 54 (.ireturn) 1 55 := ⟨by decide +kernel, rfl⟩
theorem dX6_undo_0 : St mX6_undo 0 (.aload_n 0) 1 1 := ⟨by decide +kernel, rfl⟩
theorem dX6_undo_1 : St mX6_undo 1 (.getfield 10) 3 4 := ⟨by decide +kernel, rfl⟩
theorem dX6_undo_4 : St mX6_undo 4 (.getfield 137) 3 7 := ⟨by decide +kernel, rfl⟩
theorem dX6_undo_7 : St mX6_undo 7 (.getfield 141) 3 10 := ⟨by decide +kernel, rfl⟩
theorem dX6_undo_10 : St mX6_undo 10 (.ifCond .gt 6) 3 13 := ⟨by decide +kernel, rfl⟩
theorem dX6_undo_13 : St mX6_undo 13 (.bipush (-4)) 2 15 := ⟨by decide +kernel, rfl⟩
theorem dX6_undo_15 : St mX6_undo 15 (.ireturn) 1 16 := ⟨by decide +kernel, rfl⟩
theorem dX6_undo_16 : St mX6_undo 16 (.aload_n 0) 1 17 := ⟨by decide +kernel, rfl⟩
theorem dX6_undo_17 : St mX6_undo 17 (.getfield 10) 3 20 := ⟨by decide +kernel, rfl⟩
theorem dX6_undo_20 : St mX6_undo 20 (.getfield 137) 3 23 := ⟨by decide +kernel, rfl⟩
theorem dX6_undo_23 : St mX6_undo 23 (.aload_n 0) 1 24 := ⟨by decide +kernel, rfl⟩
theorem dX6_undo_24 : St mX6_undo 24 (.getfield 10) 3 27 := ⟨by decide +kernel, rfl⟩
theorem dX6_undo_27 : St mX6_undo 27 (.getfield 69) 3 30 := ⟨by decide +kernel, rfl⟩
theorem dX6_undo_30 : St mX6_undo 30 (.invokevirtual 170) 3 33 := ⟨by decide +kernel, rfl⟩
theorem dX6_undo_33 : St mX6_undo 33 (.ireturn) 1 34 := ⟨by decide +kernel, rfl⟩
theorem dX6_seed_0 : St mX6_seed 0 (.iload_n 1) 1 1 := ⟨by decide +kernel, rfl⟩
theorem dX6_seed_1 : St mX6_seed 1 (.ifCond .ge 5) 3 4 := ⟨by decide +kernel, rfl⟩
theorem dX6_seed_4 : St mX6_seed 4 (.iconst (-1)) 1 5 := ⟨by decide +kernel, rfl⟩
theorem dX6_seed_5 : St mX6_seed 5 (.ireturn) 1 6 := ⟨by decide +kernel, rfl⟩
theorem dX6_seed_6 : St mX6_seed 6 (.aload_n 0) 1 7 := ⟨by decide +kernel, rfl⟩
theorem dX6_seed_7 : St mX6_seed 7 (.getfield 10) 3 10 := ⟨by decide +kernel, rfl⟩
theorem dX6_seed_10 : St mX6_seed 10 (.getfield 69) 3 13 := ⟨by decide +kernel, rfl⟩
theorem dX6_seed_13 : St mX6_seed 13 (.getfield 174) 3 16 := ⟨by decide +kernel, rfl⟩
theorem dX6_seed_16 : St mX6_seed 16 (.istore_n 2) 1 17 := ⟨by decide +kernel, rfl⟩
theorem dX6_seed_17 : St mX6_seed 17 (.aload_n 0) 1 18 := ⟨by decide +kernel, rfl⟩
theorem dX6_seed_18 : St mX6_seed 18 (.getfield 10) 3 21 := ⟨by decide +kernel, rfl⟩
theorem dX6_seed_21 : St mX6_seed 21 (.getfield 69) 3 24 := ⟨by decide +kernel, rfl⟩
theorem dX6_seed_24 : St mX6_seed 24 (.iload_n 1) 1 25 := ⟨by decide +kernel, rfl⟩
theorem dX6_seed_25 : St mX6_seed 25 (.putfield 174) 3 28 := ⟨by decide +kernel, rfl⟩
theorem dX6_seed_28 : St mX6_seed 28 (.iload_n 2) 1 29 := ⟨by decide +kernel, rfl⟩
theorem dX6_seed_29 : St mX6_seed 29 (.ireturn) 1 30 := ⟨by decide +kernel, rfl⟩
theorem dX6_ahead_0 : St mX6_ahead 0 (.iload_n 1) 1 1 := ⟨by decide +kernel, rfl⟩
theorem dX6_ahead_1 : St mX6_ahead 1 (.bipush (-4)) 2 3 := ⟨by decide +kernel, rfl⟩
theorem dX6_ahead_3 : St mX6_ahead 3 (.if_icmp .ne 7) 3 6 := ⟨by decide +kernel, rfl⟩
theorem dX6_ahead_6 : St mX6_ahead 6 (.iconst 1) 1 7 := ⟨by decide +kernel, rfl⟩
theorem dX6_ahead_7 : St mX6_ahead 7 (.goto 4) 3 10 := ⟨by decide +kernel, rfl⟩
theorem dX6_ahead_10 : St mX6_ahead 10 (.iconst 0) 1 11 := ⟨by decide +kernel, rfl⟩
theorem dX6_ahead_11 : St mX6_ahead 11 (.istore 4) 2 13 := ⟨by decide +kernel, rfl⟩
theorem dX6_ahead_13 : St mX6_ahead 13 (.iload 4) 2 15 := ⟨by decide +kernel, rfl⟩
theorem dX6_ahead_15 : St mX6_ahead 15 (.ifCond .ne 14) 3 18 := ⟨by decide +kernel, rfl⟩
theorem dX6_ahead_18 : St mX6_ahead 18 (.aload_n 0) 1 19 := ⟨by decide +kernel, rfl⟩
theorem dX6_ahead_19 : St mX6_ahead 19 (.getfield 10) 3 22 := ⟨by decide +kernel, rfl⟩
theorem dX6_ahead_22 : St mX6_ahead 22 (.iload_n 1) 1 23 := ⟨by decide +kernel, rfl⟩
theorem dX6_ahead_23 : St mX6_ahead 23 (.invokevirtual 85) 3 26 := ⟨by decide +kernel, rfl⟩
theorem dX6_ahead_26 : St mX6_ahead 26 (.ifCond .eq 22) 3 29 := ⟨by decide +kernel, rfl⟩
theorem dX6_ahead_29 : St mX6_ahead 29 (.iload_n 2) 1 30 := ⟨by decide +kernel, rfl⟩
theorem dX6_ahead_30 : St mX6_ahead 30 (.iconst 0) 1 31 := ⟨by decide +kernel, rfl⟩
theorem dX6_ahead_31 : St mX6_ahead 31 (.bipush 104) 2 33 := ⟨by decide +kernel, rfl⟩
theorem dX6_ahead_33 : St mX6_ahead 33 (.invokestatic 46) 3 36 := ⟨by decide +kernel, rfl⟩
theorem dX6_ahead_36 : St mX6_ahead 36 (.ifCond .eq 12) 3 39 := ⟨by decide +kernel, rfl⟩
theorem dX6_ahead_39 : St mX6_ahead 39 (.iload_n 3) 1 40 := ⟨by decide +kernel, rfl⟩
theorem dX6_ahead_40 : St mX6_ahead 40 (.iconst 0) 1 41 := ⟨by decide +kernel, rfl⟩
theorem dX6_ahead_41 : St mX6_ahead 41 (.iconst 1) 1 42 := ⟨by decide +kernel, rfl⟩
theorem dX6_ahead_42 : St mX6_ahead 42 (.invokestatic 46) 3 45 := ⟨by decide +kernel, rfl⟩
theorem dX6_ahead_45 : St mX6_ahead 45 (.ifCond .ne 5) 3 48 := ⟨by decide +kernel, rfl⟩
theorem dX6_ahead_48 : St mX6_ahead 48 (.iconst (-1)) 1 49 := ⟨by decide +kernel, rfl⟩
theorem dX6_ahead_49 : St mX6_ahead 49 (.ireturn) 1 50 := ⟨by decide +kernel, rfl⟩
theorem dX6_ahead_50 : St mX6_ahead 50 (.iload 4) 2 52 := ⟨by decide +kernel, rfl⟩
theorem dX6_ahead_52 : St mX6_ahead 52 (.ifCond .eq 15) 3 55 := ⟨by decide +kernel, rfl⟩
theorem dX6_ahead_55 : St mX6_ahead 55 (.aload_n 0) 1 56 := ⟨by decide +kernel, rfl⟩
theorem dX6_ahead_56 : St mX6_ahead 56 (.getfield 28) 3 59 := ⟨by decide +kernel, rfl⟩
theorem dX6_ahead_59 : St mX6_ahead 59 (.iload_n 2) 1 60 := ⟨by decide +kernel, rfl⟩
theorem dX6_ahead_60 : St mX6_ahead 60 (.iload_n 3) 1 61 := ⟨by decide +kernel, rfl⟩
theorem dX6_ahead_61 : St mX6_ahead 61 (.invokevirtual 177) 3 64 := ⟨by decide +kernel, rfl⟩
theorem dX6_ahead_64 : St mX6_ahead 64 (.goto 13) 3 67 := ⟨by decide +kernel, rfl⟩
theorem dX6_ahead_67 : St mX6_ahead 67 (.aload_n 0) 1 68 := ⟨by decide +kernel, rfl⟩
theorem dX6_ahead_68 : St mX6_ahead 68 (.getfield 28) 3 71 := ⟨by decide +kernel, rfl⟩
theorem dX6_ahead_71 : St mX6_ahead 71 (.iload_n 1) 1 72 := ⟨by decide +kernel, rfl⟩
theorem dX6_ahead_72 : St mX6_ahead 72 (.iload_n 2) 1 73 := ⟨by decide +kernel, rfl⟩
theorem dX6_ahead_73 : St mX6_ahead 73 (.iload_n 3) 1 74 := ⟨by decide +kernel, rfl⟩
theorem dX6_ahead_74 : St mX6_ahead 74 (.invokevirtual 180) 3 77 := ⟨by decide +kernel, rfl⟩
theorem dX6_ahead_77 : St mX6_ahead 77 (.ireturn) 1 78 := ⟨by decide +kernel, rfl⟩
theorem dX6_settles_0 : St mX6_settles 0 (.aload_n 0) 1 1 := ⟨by decide +kernel, rfl⟩
theorem dX6_settles_1 : St mX6_settles 1 (.getfield 28) 3 4 := ⟨by decide +kernel, rfl⟩
theorem dX6_settles_4 : St mX6_settles 4 (.invokevirtual 184) 3 7 := ⟨by decide +kernel, rfl⟩
theorem dX6_settles_7 : St mX6_settles 7 (.ireturn) 1 8 := ⟨by decide +kernel, rfl⟩
theorem dX6_leastGift_0 : St mX6_leastGift 0 (.aload_n 0) 1 1 := ⟨by decide +kernel, rfl⟩
theorem dX6_leastGift_1 : St mX6_leastGift 1 (.getfield 10) 3 4 := ⟨by decide +kernel, rfl⟩
theorem dX6_leastGift_4 : St mX6_leastGift 4 (.iload_n 1) 1 5 := ⟨by decide +kernel, rfl⟩
theorem dX6_leastGift_5 : St mX6_leastGift 5 (.invokevirtual 85) 3 8 := ⟨by decide +kernel, rfl⟩
theorem dX6_leastGift_8 : St mX6_leastGift 8 (.ifCond .eq 13) 3 11 := ⟨by decide +kernel, rfl⟩
theorem dX6_leastGift_11 : St mX6_leastGift 11 (.iload_n 2) 1 12 := ⟨by decide +kernel, rfl⟩
theorem dX6_leastGift_12 : St mX6_leastGift 12 (.iconst 0) 1 13 := ⟨by decide +kernel, rfl⟩
theorem dX6_leastGift_13 : St mX6_leastGift 13 (.bipush 19) 2 15 := ⟨by decide +kernel, rfl⟩
theorem dX6_leastGift_15 : St mX6_leastGift 15 (.invokestatic 46) 3 18 := ⟨by decide +kernel, rfl⟩
theorem dX6_leastGift_18 : St mX6_leastGift 18 (.ifCond .ne 5) 3 21 := ⟨by decide +kernel, rfl⟩
theorem dX6_leastGift_21 : St mX6_leastGift 21 (.iconst (-1)) 1 22 := ⟨by decide +kernel, rfl⟩
theorem dX6_leastGift_22 : St mX6_leastGift 22 (.ireturn) 1 23 := ⟨by decide +kernel, rfl⟩
theorem dX6_leastGift_23 : St mX6_leastGift 23 (.aload_n 0) 1 24 := ⟨by decide +kernel, rfl⟩
theorem dX6_leastGift_24 : St mX6_leastGift 24 (.getfield 28) 3 27 := ⟨by decide +kernel, rfl⟩
theorem dX6_leastGift_27 : St mX6_leastGift 27 (.iload_n 1) 1 28 := ⟨by decide +kernel, rfl⟩
theorem dX6_leastGift_28 : St mX6_leastGift 28 (.iload_n 2) 1 29 := ⟨by decide +kernel, rfl⟩
theorem dX6_leastGift_29 : St mX6_leastGift 29 (.invokevirtual 187) 3 32 := ⟨by decide +kernel, rfl⟩
theorem dX6_leastGift_32 : St mX6_leastGift 32 (.ireturn) 1 33 := ⟨by decide +kernel, rfl⟩
theorem dX6_sorries_0 : St mX6_sorries 0 (.iload_n 1) 1 1 := ⟨by decide +kernel, rfl⟩
theorem dX6_sorries_1 : St mX6_sorries 1 (.iconst 0) 1 2 := ⟨by decide +kernel, rfl⟩
theorem dX6_sorries_2 : St mX6_sorries 2 (.iconst 5) 1 3 := ⟨by decide +kernel, rfl⟩
theorem dX6_sorries_3 : St mX6_sorries 3 (.invokestatic 46) 3 6 := ⟨by decide +kernel, rfl⟩
theorem dX6_sorries_6 : St mX6_sorries 6 (.ifCond .eq 12) 3 9 := ⟨by decide +kernel, rfl⟩
theorem dX6_sorries_9 : St mX6_sorries 9 (.iload_n 2) 1 10 := ⟨by decide +kernel, rfl⟩
theorem dX6_sorries_10 : St mX6_sorries 10 (.iconst 0) 1 11 := ⟨by decide +kernel, rfl⟩
theorem dX6_sorries_11 : St mX6_sorries 11 (.iconst 1) 1 12 := ⟨by decide +kernel, rfl⟩
theorem dX6_sorries_12 : St mX6_sorries 12 (.invokestatic 46) 3 15 := ⟨by decide +kernel, rfl⟩
theorem dX6_sorries_15 : St mX6_sorries 15 (.ifCond .ne 5) 3 18 := ⟨by decide +kernel, rfl⟩
theorem dX6_sorries_18 : St mX6_sorries 18 (.iconst (-1)) 1 19 := ⟨by decide +kernel, rfl⟩
theorem dX6_sorries_19 : St mX6_sorries 19 (.ireturn) 1 20 := ⟨by decide +kernel, rfl⟩
theorem dX6_sorries_20 : St mX6_sorries 20 (.aload_n 0) 1 21 := ⟨by decide +kernel, rfl⟩
theorem dX6_sorries_21 : St mX6_sorries 21 (.getfield 28) 3 24 := ⟨by decide +kernel, rfl⟩
theorem dX6_sorries_24 : St mX6_sorries 24 (.invokevirtual 190) 3 27 := ⟨by decide +kernel, rfl⟩
theorem dX6_sorries_27 : St mX6_sorries 27 (.aload_n 0) 1 28 := ⟨by decide +kernel, rfl⟩
theorem dX6_sorries_28 : St mX6_sorries 28 (.getfield 28) 3 31 := ⟨by decide +kernel, rfl⟩
theorem dX6_sorries_31 : St mX6_sorries 31 (.iload_n 1) 1 32 := ⟨by decide +kernel, rfl⟩
theorem dX6_sorries_32 : St mX6_sorries 32 (.invokevirtual 193) 3 35 := ⟨by decide +kernel, rfl⟩
theorem dX6_sorries_35 : St mX6_sorries 35 (.istore_n 3) 1 36 := ⟨by decide +kernel, rfl⟩
theorem dX6_sorries_36 : St mX6_sorries 36 (.iload_n 2) 1 37 := ⟨by decide +kernel, rfl⟩
theorem dX6_sorries_37 : St mX6_sorries 37 (.ifCond .ne 7) 3 40 := ⟨by decide +kernel, rfl⟩
theorem dX6_sorries_40 : St mX6_sorries 40 (.iload_n 3) 1 41 := ⟨by decide +kernel, rfl⟩
theorem dX6_sorries_41 : St mX6_sorries 41 (.goto 11) 3 44 := ⟨by decide +kernel, rfl⟩
theorem dX6_sorries_44 : St mX6_sorries 44 (.aload_n 0) 1 45 := ⟨by decide +kernel, rfl⟩
theorem dX6_sorries_45 : St mX6_sorries 45 (.getfield 28) 3 48 := ⟨by decide +kernel, rfl⟩
theorem dX6_sorries_48 : St mX6_sorries 48 (.iload_n 3) 1 49 := ⟨by decide +kernel, rfl⟩
theorem dX6_sorries_49 : St mX6_sorries 49 (.invokevirtual 196) 3 52 := ⟨by decide +kernel, rfl⟩
theorem dX6_sorries_52 : St mX6_sorries 52 (.ireturn) 1 53 := ⟨by decide +kernel, rfl⟩
theorem dX6_stir_0 : St mX6_stir 0 (.iload_n 1) 1 1 := ⟨by decide +kernel, rfl⟩
theorem dX6_stir_1 : St mX6_stir 1 (.iconst 1) 1 2 := ⟨by decide +kernel, rfl⟩
theorem dX6_stir_2 : St mX6_stir 2 (.bipush 9) 2 4 := ⟨by decide +kernel, rfl⟩
theorem dX6_stir_4 : St mX6_stir 4 (.invokestatic 46) 3 7 := ⟨by decide +kernel, rfl⟩
theorem dX6_stir_7 : St mX6_stir 7 (.ifCond .eq 12) 3 10 := ⟨by decide +kernel, rfl⟩
theorem dX6_stir_10 : St mX6_stir 10 (.iload_n 2) 1 11 := ⟨by decide +kernel, rfl⟩
theorem dX6_stir_11 : St mX6_stir 11 (.iconst 0) 1 12 := ⟨by decide +kernel, rfl⟩
theorem dX6_stir_12 : St mX6_stir 12 (.iconst 1) 1 13 := ⟨by decide +kernel, rfl⟩
theorem dX6_stir_13 : St mX6_stir 13 (.invokestatic 46) 3 16 := ⟨by decide +kernel, rfl⟩
theorem dX6_stir_16 : St mX6_stir 16 (.ifCond .ne 5) 3 19 := ⟨by decide +kernel, rfl⟩
theorem dX6_stir_19 : St mX6_stir 19 (.iconst (-1)) 1 20 := ⟨by decide +kernel, rfl⟩
theorem dX6_stir_20 : St mX6_stir 20 (.ireturn) 1 21 := ⟨by decide +kernel, rfl⟩
theorem dX6_stir_21 : St mX6_stir 21 (.aload_n 0) 1 22 := ⟨by decide +kernel, rfl⟩
theorem dX6_stir_22 : St mX6_stir 22 (.getfield 28) 3 25 := ⟨by decide +kernel, rfl⟩
theorem dX6_stir_25 : St mX6_stir 25 (.iload_n 1) 1 26 := ⟨by decide +kernel, rfl⟩
theorem dX6_stir_26 : St mX6_stir 26 (.invokevirtual 199) 3 29 := ⟨by decide +kernel, rfl⟩
theorem dX6_stir_29 : St mX6_stir 29 (.aload_n 0) 1 30 := ⟨by decide +kernel, rfl⟩
theorem dX6_stir_30 : St mX6_stir 30 (.getfield 28) 3 33 := ⟨by decide +kernel, rfl⟩
theorem dX6_stir_33 : St mX6_stir 33 (.invokevirtual 203) 3 36 := ⟨by decide +kernel, rfl⟩
theorem dX6_stir_36 : St mX6_stir 36 (.istore_n 3) 1 37 := ⟨by decide +kernel, rfl⟩
theorem dX6_stir_37 : St mX6_stir 37 (.iload_n 2) 1 38 := ⟨by decide +kernel, rfl⟩
theorem dX6_stir_38 : St mX6_stir 38 (.ifCond .eq 9) 3 41 := ⟨by decide +kernel, rfl⟩
theorem dX6_stir_41 : St mX6_stir 41 (.iload_n 3) 1 42 := ⟨by decide +kernel, rfl⟩
theorem dX6_stir_42 : St mX6_stir 42 (.bipush (-4)) 2 44 := ⟨by decide +kernel, rfl⟩
theorem dX6_stir_44 : St mX6_stir 44 (.if_icmp .ne 7) 3 47 := ⟨by decide +kernel, rfl⟩
theorem dX6_stir_47 : St mX6_stir 47 (.iload_n 3) 1 48 := ⟨by decide +kernel, rfl⟩
theorem dX6_stir_48 : St mX6_stir 48 (.goto 13) 3 51 := ⟨by decide +kernel, rfl⟩
theorem dX6_stir_51 : St mX6_stir 51 (.aload_n 0) 1 52 := ⟨by decide +kernel, rfl⟩
theorem dX6_stir_52 : St mX6_stir 52 (.getfield 28) 3 55 := ⟨by decide +kernel, rfl⟩
theorem dX6_stir_55 : St mX6_stir 55 (.iconst 1) 1 56 := ⟨by decide +kernel, rfl⟩
theorem dX6_stir_56 : St mX6_stir 56 (.iload_n 3) 1 57 := ⟨by decide +kernel, rfl⟩
theorem dX6_stir_57 : St mX6_stir 57 (.ishl) 1 58 := ⟨by decide +kernel, rfl⟩
theorem dX6_stir_58 : St mX6_stir 58 (.invokevirtual 196) 3 61 := ⟨by decide +kernel, rfl⟩
theorem dX6_stir_61 : St mX6_stir 61 (.ireturn) 1 62 := ⟨by decide +kernel, rfl⟩
theorem dX6_holds_0 : St mX6_holds 0 (.iload_n 1) 1 1 := ⟨by decide +kernel, rfl⟩
theorem dX6_holds_1 : St mX6_holds 1 (.iconst 0) 1 2 := ⟨by decide +kernel, rfl⟩
theorem dX6_holds_2 : St mX6_holds 2 (.bipush 52) 2 4 := ⟨by decide +kernel, rfl⟩
theorem dX6_holds_4 : St mX6_holds 4 (.invokestatic 46) 3 7 := ⟨by decide +kernel, rfl⟩
theorem dX6_holds_7 : St mX6_holds 7 (.ifCond .ne 5) 3 10 := ⟨by decide +kernel, rfl⟩
theorem dX6_holds_10 : St mX6_holds 10 (.iconst (-1)) 1 11 := ⟨by decide +kernel, rfl⟩
theorem dX6_holds_11 : St mX6_holds 11 (.ireturn) 1 12 := ⟨by decide +kernel, rfl⟩
theorem dX6_holds_12 : St mX6_holds 12 (.aload_n 0) 1 13 := ⟨by decide +kernel, rfl⟩
theorem dX6_holds_13 : St mX6_holds 13 (.getfield 28) 3 16 := ⟨by decide +kernel, rfl⟩
theorem dX6_holds_16 : St mX6_holds 16 (.iload_n 1) 1 17 := ⟨by decide +kernel, rfl⟩
theorem dX6_holds_17 : St mX6_holds 17 (.invokevirtual 206) 3 20 := ⟨by decide +kernel, rfl⟩
theorem dX6_holds_20 : St mX6_holds 20 (.ireturn) 1 21 := ⟨by decide +kernel, rfl⟩
theorem dX6_image_0 : St mX6_image 0 (.aload_n 0) 1 1 := ⟨by decide +kernel, rfl⟩
theorem dX6_image_1 : St mX6_image 1 (.getfield 16) 3 4 := ⟨by decide +kernel, rfl⟩
theorem dX6_image_4 : St mX6_image 4 (.aload_n 0) 1 5 := ⟨by decide +kernel, rfl⟩
theorem dX6_image_5 : St mX6_image 5 (.getfield 10) 3 8 := ⟨by decide +kernel, rfl⟩
theorem dX6_image_8 : St mX6_image 8 (.invokevirtual 209) 3 11 := ⟨by decide +kernel, rfl⟩
theorem dX6_image_11 : St mX6_image 11 (.aload_n 0) 1 12 := ⟨by decide +kernel, rfl⟩
theorem dX6_image_12 : St mX6_image 12 (.iconst 1) 1 13 := ⟨by decide +kernel, rfl⟩
theorem dX6_image_13 : St mX6_image 13 (.putfield 19) 3 16 := ⟨by decide +kernel, rfl⟩
theorem dX6_image_16 : St mX6_image 16 (.iconst 1) 1 17 := ⟨by decide +kernel, rfl⟩
theorem dX6_image_17 : St mX6_image 17 (.ireturn) 1 18 := ⟨by decide +kernel, rfl⟩
theorem dX6_restore_0 : St mX6_restore 0 (.aload_n 0) 1 1 := ⟨by decide +kernel, rfl⟩
theorem dX6_restore_1 : St mX6_restore 1 (.getfield 19) 3 4 := ⟨by decide +kernel, rfl⟩
theorem dX6_restore_4 : St mX6_restore 4 (.ifCond .ne 6) 3 7 := ⟨by decide +kernel, rfl⟩
theorem dX6_restore_7 : St mX6_restore 7 (.bipush (-4)) 2 9 := ⟨by decide +kernel, rfl⟩
theorem dX6_restore_9 : St mX6_restore 9 (.ireturn) 1 10 := ⟨by decide +kernel, rfl⟩
theorem dX6_restore_10 : St mX6_restore 10 (.aload_n 0) 1 11 := ⟨by decide +kernel, rfl⟩
theorem dX6_restore_11 : St mX6_restore 11 (.getfield 10) 3 14 := ⟨by decide +kernel, rfl⟩
theorem dX6_restore_14 : St mX6_restore 14 (.aload_n 0) 1 15 := ⟨by decide +kernel, rfl⟩
theorem dX6_restore_15 : St mX6_restore 15 (.getfield 16) 3 18 := ⟨by decide +kernel, rfl⟩
theorem dX6_restore_18 : St mX6_restore 18 (.invokevirtual 209) 3 21 := ⟨by decide +kernel, rfl⟩
theorem dX6_restore_21 : St mX6_restore 21 (.iconst 1) 1 22 := ⟨by decide +kernel, rfl⟩
theorem dX6_restore_22 : St mX6_restore 22 (.ireturn) 1 23 := ⟨by decide +kernel, rfl⟩
theorem dX6_seen_0 : St mX6_seen 0 (.aload_n 0) 1 1 := ⟨by decide +kernel, rfl⟩
theorem dX6_seen_1 : St mX6_seen 1 (.getfield 10) 3 4 := ⟨by decide +kernel, rfl⟩
theorem dX6_seen_4 : St mX6_seen 4 (.iload_n 1) 1 5 := ⟨by decide +kernel, rfl⟩
theorem dX6_seen_5 : St mX6_seen 5 (.invokevirtual 85) 3 8 := ⟨by decide +kernel, rfl⟩
theorem dX6_seen_8 : St mX6_seen 8 (.ifCond .eq 38) 3 11 := ⟨by decide +kernel, rfl⟩
theorem dX6_seen_11 : St mX6_seen 11 (.iload_n 2) 1 12 := ⟨by decide +kernel, rfl⟩
theorem dX6_seen_12 : St mX6_seen 12 (.invokestatic 212) 3 15 := ⟨by decide +kernel, rfl⟩
theorem dX6_seen_15 : St mX6_seen 15 (.ifCond .eq 31) 3 18 := ⟨by decide +kernel, rfl⟩
theorem dX6_seen_18 : St mX6_seen 18 (.iload_n 3) 1 19 := ⟨by decide +kernel, rfl⟩
theorem dX6_seen_19 : St mX6_seen 19 (.invokestatic 215) 3 22 := ⟨by decide +kernel, rfl⟩
theorem dX6_seen_22 : St mX6_seen 22 (.ifCond .eq 24) 3 25 := ⟨by decide +kernel, rfl⟩
theorem dX6_seen_25 : St mX6_seen 25 (.iload 5) 2 27 := ⟨by decide +kernel, rfl⟩
theorem dX6_seen_27 : St mX6_seen 27 (.iconst 1) 1 28 := ⟨by decide +kernel, rfl⟩
theorem dX6_seen_28 : St mX6_seen 28 (.bipush 6) 2 30 := ⟨by decide +kernel, rfl⟩
theorem dX6_seen_30 : St mX6_seen 30 (.invokestatic 46) 3 33 := ⟨by decide +kernel, rfl⟩
theorem dX6_seen_33 : St mX6_seen 33 (.ifCond .eq 13) 3 36 := ⟨by decide +kernel, rfl⟩
theorem dX6_seen_36 : St mX6_seen 36 (.iload 6) 2 38 := ⟨by decide +kernel, rfl⟩
theorem dX6_seen_38 : St mX6_seen 38 (.iconst 0) 1 39 := ⟨by decide +kernel, rfl⟩
theorem dX6_seen_39 : St mX6_seen 39 (.iconst 1) 1 40 := ⟨by decide +kernel, rfl⟩
theorem dX6_seen_40 : St mX6_seen 40 (.invokestatic 46) 3 43 := ⟨by decide +kernel, rfl⟩
theorem dX6_seen_43 : St mX6_seen 43 (.ifCond .ne 5) 3 46 := ⟨by decide +kernel, rfl⟩
theorem dX6_seen_46 : St mX6_seen 46 (.iconst (-1)) 1 47 := ⟨by decide +kernel, rfl⟩
theorem dX6_seen_47 : St mX6_seen 47 (.ireturn) 1 48 := ⟨by decide +kernel, rfl⟩
theorem dX6_seen_48 : St mX6_seen 48 (.aload_n 0) 1 49 := ⟨by decide +kernel, rfl⟩
theorem dX6_seen_49 : St mX6_seen 49 (.getfield 41) 3 52 := ⟨by decide +kernel, rfl⟩
theorem dX6_seen_52 : St mX6_seen 52 (.iload_n 2) 1 53 := ⟨by decide +kernel, rfl⟩
theorem dX6_seen_53 : St mX6_seen 53 (.aaload) 1 54 := ⟨by decide +kernel, rfl⟩
theorem dX6_seen_54 : St mX6_seen 54 (.iload_n 3) 1 55 := ⟨by decide +kernel, rfl⟩
theorem dX6_seen_55 : St mX6_seen 55 (.iload 4) 2 57 := ⟨by decide +kernel, rfl⟩
theorem dX6_seen_57 : St mX6_seen 57 (.iload 5) 2 59 := ⟨by decide +kernel, rfl⟩
theorem dX6_seen_59 : St mX6_seen 59 (.invokevirtual 218) 3 62 := ⟨by decide +kernel, rfl⟩
theorem dX6_seen_62 : St mX6_seen 62 (.istore 7) 2 64 := ⟨by decide +kernel, rfl⟩
theorem dX6_seen_64 : St mX6_seen 64 (.iload 7) 2 66 := ⟨by decide +kernel, rfl⟩
theorem dX6_seen_66 : St mX6_seen 66 (.ifCond .eq 6) 3 69 := ⟨by decide +kernel, rfl⟩
theorem dX6_seen_69 : St mX6_seen 69 (.iload 7) 2 71 := ⟨by decide +kernel, rfl⟩
theorem dX6_seen_71 : St mX6_seen 71 (.ireturn) 1 72 := ⟨by decide +kernel, rfl⟩
theorem dX6_seen_72 : St mX6_seen 72 (.iload 6) 2 74 := ⟨by decide +kernel, rfl⟩
theorem dX6_seen_74 : St mX6_seen 74 (.ifCond .ne 24) 3 77 := ⟨by decide +kernel, rfl⟩
theorem dX6_seen_77 : St mX6_seen 77 (.aload_n 0) 1 78 := ⟨by decide +kernel, rfl⟩
theorem dX6_seen_78 : St mX6_seen 78 (.getfield 28) 3 81 := ⟨by decide +kernel, rfl⟩
theorem dX6_seen_81 : St mX6_seen 81 (.iload_n 1) 1 82 := ⟨by decide +kernel, rfl⟩
theorem dX6_seen_82 : St mX6_seen 82 (.aload_n 0) 1 83 := ⟨by decide +kernel, rfl⟩
theorem dX6_seen_83 : St mX6_seen 83 (.getfield 41) 3 86 := ⟨by decide +kernel, rfl⟩
theorem dX6_seen_86 : St mX6_seen 86 (.iload_n 2) 1 87 := ⟨by decide +kernel, rfl⟩
theorem dX6_seen_87 : St mX6_seen 87 (.aaload) 1 88 := ⟨by decide +kernel, rfl⟩
theorem dX6_seen_88 : St mX6_seen 88 (.iload 4) 2 90 := ⟨by decide +kernel, rfl⟩
theorem dX6_seen_90 : St mX6_seen 90 (.iload 5) 2 92 := ⟨by decide +kernel, rfl⟩
theorem dX6_seen_92 : St mX6_seen 92 (.invokevirtual 221) 3 95 := ⟨by decide +kernel, rfl⟩
theorem dX6_seen_95 : St mX6_seen 95 (.goto 21) 3 98 := ⟨by decide +kernel, rfl⟩
theorem dX6_seen_98 : St mX6_seen 98 (.aload_n 0) 1 99 := ⟨by decide +kernel, rfl⟩
theorem dX6_seen_99 : St mX6_seen 99 (.getfield 28) 3 102 := ⟨by decide +kernel, rfl⟩
theorem dX6_seen_102 : St mX6_seen 102 (.iload_n 1) 1 103 := ⟨by decide +kernel, rfl⟩
theorem dX6_seen_103 : St mX6_seen 103 (.aload_n 0) 1 104 := ⟨by decide +kernel, rfl⟩
theorem dX6_seen_104 : St mX6_seen 104 (.getfield 41) 3 107 := ⟨by decide +kernel, rfl⟩
theorem dX6_seen_107 : St mX6_seen 107 (.iload_n 2) 1 108 := ⟨by decide +kernel, rfl⟩
theorem dX6_seen_108 : St mX6_seen 108 (.aaload) 1 109 := ⟨by decide +kernel, rfl⟩
theorem dX6_seen_109 : St mX6_seen 109 (.iload 4) 2 111 := ⟨by decide +kernel, rfl⟩
theorem dX6_seen_111 : St mX6_seen 111 (.iload 5) 2 113 := ⟨by decide +kernel, rfl⟩
theorem dX6_seen_113 : St mX6_seen 113 (.invokevirtual 225) 3 116 := ⟨by decide +kernel, rfl⟩
theorem dX6_seen_116 : St mX6_seen 116 (.ireturn) 1 117 := ⟨by decide +kernel, rfl⟩
theorem dX6_film_0 : St mX6_film 0 (.aload_n 0) 1 1 := ⟨by decide +kernel, rfl⟩
theorem dX6_film_1 : St mX6_film 1 (.getfield 10) 3 4 := ⟨by decide +kernel, rfl⟩
theorem dX6_film_4 : St mX6_film 4 (.iload_n 1) 1 5 := ⟨by decide +kernel, rfl⟩
theorem dX6_film_5 : St mX6_film 5 (.invokevirtual 85) 3 8 := ⟨by decide +kernel, rfl⟩
theorem dX6_film_8 : St mX6_film 8 (.ifCond .eq 28) 3 11 := ⟨by decide +kernel, rfl⟩
theorem dX6_film_11 : St mX6_film 11 (.iload_n 2) 1 12 := ⟨by decide +kernel, rfl⟩
theorem dX6_film_12 : St mX6_film 12 (.iconst 1) 1 13 := ⟨by decide +kernel, rfl⟩
theorem dX6_film_13 : St mX6_film 13 (.bipush 24) 2 15 := ⟨by decide +kernel, rfl⟩
theorem dX6_film_15 : St mX6_film 15 (.invokestatic 46) 3 18 := ⟨by decide +kernel, rfl⟩
theorem dX6_film_18 : St mX6_film 18 (.ifCond .eq 18) 3 21 := ⟨by decide +kernel, rfl⟩
theorem dX6_film_21 : St mX6_film 21 (.iload_n 3) 1 22 := ⟨by decide +kernel, rfl⟩
theorem dX6_film_22 : St mX6_film 22 (.invokestatic 212) 3 25 := ⟨by decide +kernel, rfl⟩
theorem dX6_film_25 : St mX6_film 25 (.ifCond .eq 11) 3 28 := ⟨by decide +kernel, rfl⟩
theorem dX6_film_28 : St mX6_film 28 (.iload 4) 2 30 := ⟨by decide +kernel, rfl⟩
theorem dX6_film_30 : St mX6_film 30 (.invokestatic 215) 3 33 := ⟨by decide +kernel, rfl⟩
theorem dX6_film_33 : St mX6_film 33 (.ifCond .ne 5) 3 36 := ⟨by decide +kernel, rfl⟩
theorem dX6_film_36 : St mX6_film 36 (.iconst (-1)) 1 37 := ⟨by decide +kernel, rfl⟩
theorem dX6_film_37 : St mX6_film 37 (.ireturn) 1 38 := ⟨by decide +kernel, rfl⟩
theorem dX6_film_38 : St mX6_film 38 (.aload_n 0) 1 39 := ⟨by decide +kernel, rfl⟩
theorem dX6_film_39 : St mX6_film 39 (.getfield 41) 3 42 := ⟨by decide +kernel, rfl⟩
theorem dX6_film_42 : St mX6_film 42 (.iload_n 3) 1 43 := ⟨by decide +kernel, rfl⟩
theorem dX6_film_43 : St mX6_film 43 (.aaload) 1 44 := ⟨by decide +kernel, rfl⟩
theorem dX6_film_44 : St mX6_film 44 (.iload 4) 2 46 := ⟨by decide +kernel, rfl⟩
theorem dX6_film_46 : St mX6_film 46 (.iload 5) 2 48 := ⟨by decide +kernel, rfl⟩
theorem dX6_film_48 : St mX6_film 48 (.iload_n 2) 1 49 := ⟨by decide +kernel, rfl⟩
theorem dX6_film_49 : St mX6_film 49 (.invokevirtual 218) 3 52 := ⟨by decide +kernel, rfl⟩
theorem dX6_film_52 : St mX6_film 52 (.istore 6) 2 54 := ⟨by decide +kernel, rfl⟩
theorem dX6_film_54 : St mX6_film 54 (.iload 6) 2 56 := ⟨by decide +kernel, rfl⟩
theorem dX6_film_56 : St mX6_film 56 (.ifCond .eq 6) 3 59 := ⟨by decide +kernel, rfl⟩
theorem dX6_film_59 : St mX6_film 59 (.iload 6) 2 61 := ⟨by decide +kernel, rfl⟩
theorem dX6_film_61 : St mX6_film 61 (.ireturn) 1 62 := ⟨by decide +kernel, rfl⟩
theorem dX6_film_62 : St mX6_film 62 (.iconst 0) 1 63 := ⟨by decide +kernel, rfl⟩
theorem dX6_film_63 : St mX6_film 63 (.istore 7) 2 65 := ⟨by decide +kernel, rfl⟩
theorem dX6_film_65 : St mX6_film 65 (.iload 7) 2 67 := ⟨by decide +kernel, rfl⟩
theorem dX6_film_67 : St mX6_film 67 (.iload_n 2) 1 68 := ⟨by decide +kernel, rfl⟩
theorem dX6_film_68 : St mX6_film 68 (.if_icmp .ge 37) 3 71 := ⟨by decide +kernel, rfl⟩
theorem dX6_film_71 : St mX6_film 71 (.aload_n 0) 1 72 := ⟨by decide +kernel, rfl⟩
theorem dX6_film_72 : St mX6_film 72 (.getfield 41) 3 75 := ⟨by decide +kernel, rfl⟩
theorem dX6_film_75 : St mX6_film 75 (.iload_n 3) 1 76 := ⟨by decide +kernel, rfl⟩
theorem dX6_film_76 : St mX6_film 76 (.aaload) 1 77 := ⟨by decide +kernel, rfl⟩
theorem dX6_film_77 : St mX6_film 77 (.iload 5) 2 79 := ⟨by decide +kernel, rfl⟩
theorem dX6_film_79 : St mX6_film 79 (.iload 7) 2 81 := ⟨by decide +kernel, rfl⟩
theorem dX6_film_81 : St mX6_film 81 (.iadd) 1 82 := ⟨by decide +kernel, rfl⟩
theorem dX6_film_82 : St mX6_film 82 (.aload_n 0) 1 83 := ⟨by decide +kernel, rfl⟩
theorem dX6_film_83 : St mX6_film 83 (.getfield 28) 3 86 := ⟨by decide +kernel, rfl⟩
theorem dX6_film_86 : St mX6_film 86 (.iload_n 1) 1 87 := ⟨by decide +kernel, rfl⟩
theorem dX6_film_87 : St mX6_film 87 (.iload 7) 2 89 := ⟨by decide +kernel, rfl⟩
theorem dX6_film_89 : St mX6_film 89 (.iconst 1) 1 90 := ⟨by decide +kernel, rfl⟩
theorem dX6_film_90 : St mX6_film 90 (.iadd) 1 91 := ⟨by decide +kernel, rfl⟩
theorem dX6_film_91 : St mX6_film 91 (.iconst 1) 1 92 := ⟨by decide +kernel, rfl⟩
theorem dX6_film_92 : St mX6_film 92 (.invokevirtual 180) 3 95 := ⟨by decide +kernel, rfl⟩
theorem dX6_film_95 : St mX6_film 95 (.i2l) 1 96 := ⟨by decide +kernel, rfl⟩
theorem dX6_film_96 : St mX6_film 96 (.invokevirtual 228) 3 99 := ⟨by decide +kernel, rfl⟩
theorem dX6_film_99 : St mX6_film 99 (.iinc 7 1) 3 102 := ⟨by decide +kernel, rfl⟩
theorem dX6_film_102 : St mX6_film 102 (.goto (-37)) 3 105 := ⟨by decide +kernel, rfl⟩
theorem dX6_film_105 : St mX6_film 105 (.iload_n 2) 1 106 := ⟨by decide +kernel, rfl⟩
theorem dX6_film_106 : St mX6_film 106 (.ireturn) 1 107 := ⟨by decide +kernel, rfl⟩
theorem dX6_sheet_0 : St mX6_sheet 0 (.iload_n 1) 1 1 := ⟨by decide +kernel, rfl⟩
theorem dX6_sheet_1 : St mX6_sheet 1 (.invokestatic 212) 3 4 := ⟨by decide +kernel, rfl⟩
theorem dX6_sheet_4 : St mX6_sheet 4 (.ifCond .eq 16) 3 7 := ⟨by decide +kernel, rfl⟩
theorem dX6_sheet_7 : St mX6_sheet 7 (.iload_n 2) 1 8 := ⟨by decide +kernel, rfl⟩
theorem dX6_sheet_8 : St mX6_sheet 8 (.invokestatic 215) 3 11 := ⟨by decide +kernel, rfl⟩
theorem dX6_sheet_11 : St mX6_sheet 11 (.ifCond .eq 9) 3 14 := ⟨by decide +kernel, rfl⟩
theorem dX6_sheet_14 : St mX6_sheet 14 (.iload_n 3) 1 15 := ⟨by decide +kernel, rfl⟩
theorem dX6_sheet_15 : St mX6_sheet 15 (.bipush 24) 2 17 := ⟨by decide +kernel, rfl⟩
theorem dX6_sheet_17 : St mX6_sheet 17 (.if_icmp .le 5) 3 20 := ⟨by decide +kernel, rfl⟩
theorem dX6_sheet_20 : St mX6_sheet 20 (.iconst (-1)) 1 21 := ⟨by decide +kernel, rfl⟩
theorem dX6_sheet_21 : St mX6_sheet 21 (.ireturn) 1 22 := ⟨by decide +kernel, rfl⟩
theorem dX6_sheet_22 : St mX6_sheet 22 (.iload_n 3) 1 23 := ⟨by decide +kernel, rfl⟩
theorem dX6_sheet_23 : St mX6_sheet 23 (.ifCond .ge 6) 3 26 := ⟨by decide +kernel, rfl⟩
theorem dX6_sheet_26 : St mX6_sheet 26 (.bipush (-14)) 2 28 := ⟨by decide +kernel, rfl⟩
theorem dX6_sheet_28 : St mX6_sheet 28 (.ireturn) 1 29 := ⟨by decide +kernel, rfl⟩
theorem dX6_sheet_29 : St mX6_sheet 29 (.aload_n 0) 1 30 := ⟨by decide +kernel, rfl⟩
theorem dX6_sheet_30 : St mX6_sheet 30 (.getfield 41) 3 33 := ⟨by decide +kernel, rfl⟩
theorem dX6_sheet_33 : St mX6_sheet 33 (.iload_n 1) 1 34 := ⟨by decide +kernel, rfl⟩
theorem dX6_sheet_34 : St mX6_sheet 34 (.aaload) 1 35 := ⟨by decide +kernel, rfl⟩
theorem dX6_sheet_35 : St mX6_sheet 35 (.iload_n 2) 1 36 := ⟨by decide +kernel, rfl⟩
theorem dX6_sheet_36 : St mX6_sheet 36 (.iload_n 3) 1 37 := ⟨by decide +kernel, rfl⟩
theorem dX6_sheet_37 : St mX6_sheet 37 (.invokevirtual 232) 3 40 := ⟨by decide +kernel, rfl⟩
theorem dX6_sheet_40 : St mX6_sheet 40 (.iload_n 3) 1 41 := ⟨by decide +kernel, rfl⟩
theorem dX6_sheet_41 : St mX6_sheet 41 (.ireturn) 1 42 := ⟨by decide +kernel, rfl⟩
theorem dX6_drop_0 : St mX6_drop 0 (.iload_n 1) 1 1 := ⟨by decide +kernel, rfl⟩
theorem dX6_drop_1 : St mX6_drop 1 (.invokestatic 212) 3 4 := ⟨by decide +kernel, rfl⟩
theorem dX6_drop_4 : St mX6_drop 4 (.ifCond .ne 5) 3 7 := ⟨by decide +kernel, rfl⟩
theorem dX6_drop_7 : St mX6_drop 7 (.iconst (-1)) 1 8 := ⟨by decide +kernel, rfl⟩
theorem dX6_drop_8 : St mX6_drop 8 (.ireturn) 1 9 := ⟨by decide +kernel, rfl⟩
theorem dX6_drop_9 : St mX6_drop 9 (.aload_n 0) 1 10 := ⟨by decide +kernel, rfl⟩
theorem dX6_drop_10 : St mX6_drop 10 (.getfield 41) 3 13 := ⟨by decide +kernel, rfl⟩
theorem dX6_drop_13 : St mX6_drop 13 (.iload_n 1) 1 14 := ⟨by decide +kernel, rfl⟩
theorem dX6_drop_14 : St mX6_drop 14 (.aaload) 1 15 := ⟨by decide +kernel, rfl⟩
theorem dX6_drop_15 : St mX6_drop 15 (.getfield 236) 3 18 := ⟨by decide +kernel, rfl⟩
theorem dX6_drop_18 : St mX6_drop 18 (.ifCond .ne 6) 3 21 := ⟨by decide +kernel, rfl⟩
theorem dX6_drop_21 : St mX6_drop 21 (.bipush (-11)) 2 23 := ⟨by decide +kernel, rfl⟩
theorem dX6_drop_23 : St mX6_drop 23 (.ireturn) 1 24 := ⟨by decide +kernel, rfl⟩
theorem dX6_drop_24 : St mX6_drop 24 (.aload_n 0) 1 25 := ⟨by decide +kernel, rfl⟩
theorem dX6_drop_25 : St mX6_drop 25 (.getfield 41) 3 28 := ⟨by decide +kernel, rfl⟩
theorem dX6_drop_28 : St mX6_drop 28 (.iload_n 1) 1 29 := ⟨by decide +kernel, rfl⟩
theorem dX6_drop_29 : St mX6_drop 29 (.aaload) 1 30 := ⟨by decide +kernel, rfl⟩
theorem dX6_drop_30 : St mX6_drop 30 (.iconst 0) 1 31 := ⟨by decide +kernel, rfl⟩
theorem dX6_drop_31 : St mX6_drop 31 (.putfield 236) 3 34 := ⟨by decide +kernel, rfl⟩
theorem dX6_drop_34 : St mX6_drop 34 (.aload_n 0) 1 35 := ⟨by decide +kernel, rfl⟩
theorem dX6_drop_35 : St mX6_drop 35 (.getfield 41) 3 38 := ⟨by decide +kernel, rfl⟩
theorem dX6_drop_38 : St mX6_drop 38 (.iload_n 1) 1 39 := ⟨by decide +kernel, rfl⟩
theorem dX6_drop_39 : St mX6_drop 39 (.aaload) 1 40 := ⟨by decide +kernel, rfl⟩
theorem dX6_drop_40 : St mX6_drop 40 (.getfield 239) 3 43 := ⟨by decide +kernel, rfl⟩
theorem dX6_drop_43 : St mX6_drop 43 (.ireturn) 1 44 := ⟨by decide +kernel, rfl⟩
theorem dX6_item_0 : St mX6_item 0 (.iload_n 1) 1 1 := ⟨by decide +kernel, rfl⟩
theorem dX6_item_1 : St mX6_item 1 (.invokestatic 212) 3 4 := ⟨by decide +kernel, rfl⟩
theorem dX6_item_4 : St mX6_item 4 (.ifCond .eq 10) 3 7 := ⟨by decide +kernel, rfl⟩
theorem dX6_item_7 : St mX6_item 7 (.iload_n 2) 1 8 := ⟨by decide +kernel, rfl⟩
theorem dX6_item_8 : St mX6_item 8 (.invokestatic 215) 3 11 := ⟨by decide +kernel, rfl⟩
theorem dX6_item_11 : St mX6_item 11 (.ifCond .ne 5) 3 14 := ⟨by decide +kernel, rfl⟩
theorem dX6_item_14 : St mX6_item 14 (.iconst (-1)) 1 15 := ⟨by decide +kernel, rfl⟩
theorem dX6_item_15 : St mX6_item 15 (.ireturn) 1 16 := ⟨by decide +kernel, rfl⟩
theorem dX6_item_16 : St mX6_item 16 (.aload_n 0) 1 17 := ⟨by decide +kernel, rfl⟩
theorem dX6_item_17 : St mX6_item 17 (.getfield 41) 3 20 := ⟨by decide +kernel, rfl⟩
theorem dX6_item_20 : St mX6_item 20 (.iload_n 1) 1 21 := ⟨by decide +kernel, rfl⟩
theorem dX6_item_21 : St mX6_item 21 (.aaload) 1 22 := ⟨by decide +kernel, rfl⟩
theorem dX6_item_22 : St mX6_item 22 (.iload_n 2) 1 23 := ⟨by decide +kernel, rfl⟩
theorem dX6_item_23 : St mX6_item 23 (.iload_n 3) 1 24 := ⟨by decide +kernel, rfl⟩
theorem dX6_item_24 : St mX6_item 24 (.iconst 1) 1 25 := ⟨by decide +kernel, rfl⟩
theorem dX6_item_25 : St mX6_item 25 (.invokevirtual 218) 3 28 := ⟨by decide +kernel, rfl⟩
theorem dX6_item_28 : St mX6_item 28 (.istore 6) 2 30 := ⟨by decide +kernel, rfl⟩
theorem dX6_item_30 : St mX6_item 30 (.iload 6) 2 32 := ⟨by decide +kernel, rfl⟩
theorem dX6_item_32 : St mX6_item 32 (.ifCond .eq 6) 3 35 := ⟨by decide +kernel, rfl⟩
theorem dX6_item_35 : St mX6_item 35 (.iload 6) 2 37 := ⟨by decide +kernel, rfl⟩
theorem dX6_item_37 : St mX6_item 37 (.ireturn) 1 38 := ⟨by decide +kernel, rfl⟩
theorem dX6_item_38 : St mX6_item 38 (.aload_n 0) 1 39 := ⟨by decide +kernel, rfl⟩
theorem dX6_item_39 : St mX6_item 39 (.getfield 41) 3 42 := ⟨by decide +kernel, rfl⟩
theorem dX6_item_42 : St mX6_item 42 (.iload_n 1) 1 43 := ⟨by decide +kernel, rfl⟩
theorem dX6_item_43 : St mX6_item 43 (.aaload) 1 44 := ⟨by decide +kernel, rfl⟩
theorem dX6_item_44 : St mX6_item 44 (.iload_n 3) 1 45 := ⟨by decide +kernel, rfl⟩
theorem dX6_item_45 : St mX6_item 45 (.lload 4) 2 47 := ⟨by decide +kernel, rfl⟩
theorem dX6_item_47 : St mX6_item 47 (.invokevirtual 228) 3 50 := ⟨by decide +kernel, rfl⟩
theorem dX6_item_50 : St mX6_item 50 (.iconst 1) 1 51 := ⟨by decide +kernel, rfl⟩
theorem dX6_item_51 : St mX6_item 51 (.ireturn) 1 52 := ⟨by decide +kernel, rfl⟩
theorem dX6_copy_0 : St mX6_copy 0 (.iload_n 1) 1 1 := ⟨by decide +kernel, rfl⟩
theorem dX6_copy_1 : St mX6_copy 1 (.invokestatic 212) 3 4 := ⟨by decide +kernel, rfl⟩
theorem dX6_copy_4 : St mX6_copy 4 (.ifCond .eq 10) 3 7 := ⟨by decide +kernel, rfl⟩
theorem dX6_copy_7 : St mX6_copy 7 (.iload_n 3) 1 8 := ⟨by decide +kernel, rfl⟩
theorem dX6_copy_8 : St mX6_copy 8 (.invokestatic 212) 3 11 := ⟨by decide +kernel, rfl⟩
theorem dX6_copy_11 : St mX6_copy 11 (.ifCond .ne 5) 3 14 := ⟨by decide +kernel, rfl⟩
theorem dX6_copy_14 : St mX6_copy 14 (.iconst (-1)) 1 15 := ⟨by decide +kernel, rfl⟩
theorem dX6_copy_15 : St mX6_copy 15 (.ireturn) 1 16 := ⟨by decide +kernel, rfl⟩
theorem dX6_copy_16 : St mX6_copy 16 (.aload_n 0) 1 17 := ⟨by decide +kernel, rfl⟩
theorem dX6_copy_17 : St mX6_copy 17 (.getfield 41) 3 20 := ⟨by decide +kernel, rfl⟩
theorem dX6_copy_20 : St mX6_copy 20 (.iload_n 1) 1 21 := ⟨by decide +kernel, rfl⟩
theorem dX6_copy_21 : St mX6_copy 21 (.aaload) 1 22 := ⟨by decide +kernel, rfl⟩
theorem dX6_copy_22 : St mX6_copy 22 (.getfield 236) 3 25 := ⟨by decide +kernel, rfl⟩
theorem dX6_copy_25 : St mX6_copy 25 (.ifCond .eq 15) 3 28 := ⟨by decide +kernel, rfl⟩
theorem dX6_copy_28 : St mX6_copy 28 (.aload_n 0) 1 29 := ⟨by decide +kernel, rfl⟩
theorem dX6_copy_29 : St mX6_copy 29 (.getfield 41) 3 32 := ⟨by decide +kernel, rfl⟩
theorem dX6_copy_32 : St mX6_copy 32 (.iload_n 3) 1 33 := ⟨by decide +kernel, rfl⟩
theorem dX6_copy_33 : St mX6_copy 33 (.aaload) 1 34 := ⟨by decide +kernel, rfl⟩
theorem dX6_copy_34 : St mX6_copy 34 (.getfield 236) 3 37 := ⟨by decide +kernel, rfl⟩
theorem dX6_copy_37 : St mX6_copy 37 (.ifCond .ne 6) 3 40 := ⟨by decide +kernel, rfl⟩
theorem dX6_copy_40 : St mX6_copy 40 (.bipush (-11)) 2 42 := ⟨by decide +kernel, rfl⟩
theorem dX6_copy_42 : St mX6_copy 42 (.ireturn) 1 43 := ⟨by decide +kernel, rfl⟩
theorem dX6_copy_43 : St mX6_copy 43 (.aload_n 0) 1 44 := ⟨by decide +kernel, rfl⟩
theorem dX6_copy_44 : St mX6_copy 44 (.getfield 41) 3 47 := ⟨by decide +kernel, rfl⟩
theorem dX6_copy_47 : St mX6_copy 47 (.iload_n 1) 1 48 := ⟨by decide +kernel, rfl⟩
theorem dX6_copy_48 : St mX6_copy 48 (.aaload) 1 49 := ⟨by decide +kernel, rfl⟩
theorem dX6_copy_49 : St mX6_copy 49 (.getfield 240) 3 52 := ⟨by decide +kernel, rfl⟩
theorem dX6_copy_52 : St mX6_copy 52 (.aload_n 0) 1 53 := ⟨by decide +kernel, rfl⟩
theorem dX6_copy_53 : St mX6_copy 53 (.getfield 41) 3 56 := ⟨by decide +kernel, rfl⟩
theorem dX6_copy_56 : St mX6_copy 56 (.iload_n 3) 1 57 := ⟨by decide +kernel, rfl⟩
theorem dX6_copy_57 : St mX6_copy 57 (.aaload) 1 58 := ⟨by decide +kernel, rfl⟩
theorem dX6_copy_58 : St mX6_copy 58 (.getfield 240) 3 61 := ⟨by decide +kernel, rfl⟩
theorem dX6_copy_61 : St mX6_copy 61 (.if_icmp .eq 6) 3 64 := ⟨by decide +kernel, rfl⟩
theorem dX6_copy_64 : St mX6_copy 64 (.bipush (-12)) 2 66 := ⟨by decide +kernel, rfl⟩
theorem dX6_copy_66 : St mX6_copy 66 (.ireturn) 1 67 := ⟨by decide +kernel, rfl⟩
theorem dX6_copy_67 : St mX6_copy 67 (.aload_n 0) 1 68 := ⟨by decide +kernel, rfl⟩
theorem dX6_copy_68 : St mX6_copy 68 (.getfield 41) 3 71 := ⟨by decide +kernel, rfl⟩
theorem dX6_copy_71 : St mX6_copy 71 (.iload_n 1) 1 72 := ⟨by decide +kernel, rfl⟩
theorem dX6_copy_72 : St mX6_copy 72 (.aaload) 1 73 := ⟨by decide +kernel, rfl⟩
theorem dX6_copy_73 : St mX6_copy 73 (.iload_n 2) 1 74 := ⟨by decide +kernel, rfl⟩
theorem dX6_copy_74 : St mX6_copy 74 (.iload 5) 2 76 := ⟨by decide +kernel, rfl⟩
theorem dX6_copy_76 : St mX6_copy 76 (.invokevirtual 243) 3 79 := ⟨by decide +kernel, rfl⟩
theorem dX6_copy_79 : St mX6_copy 79 (.ifCond .eq 19) 3 82 := ⟨by decide +kernel, rfl⟩
theorem dX6_copy_82 : St mX6_copy 82 (.aload_n 0) 1 83 := ⟨by decide +kernel, rfl⟩
theorem dX6_copy_83 : St mX6_copy 83 (.getfield 41) 3 86 := ⟨by decide +kernel, rfl⟩
theorem dX6_copy_86 : St mX6_copy 86 (.iload_n 3) 1 87 := ⟨by decide +kernel, rfl⟩
theorem dX6_copy_87 : St mX6_copy 87 (.aaload) 1 88 := ⟨by decide +kernel, rfl⟩
theorem dX6_copy_88 : St mX6_copy 88 (.iload 4) 2 90 := ⟨by decide +kernel, rfl⟩
theorem dX6_copy_90 : St mX6_copy 90 (.iload 5) 2 92 := ⟨by decide +kernel, rfl⟩
theorem dX6_copy_92 : St mX6_copy 92 (.invokevirtual 243) 3 95 := ⟨by decide +kernel, rfl⟩
theorem dX6_copy_95 : St mX6_copy 95 (.ifCond .ne 6) 3 98 := ⟨by decide +kernel, rfl⟩
theorem dX6_copy_98 : St mX6_copy 98 (.bipush (-13)) 2 100 := ⟨by decide +kernel, rfl⟩
theorem dX6_copy_100 : St mX6_copy 100 (.ireturn) 1 101 := ⟨by decide +kernel, rfl⟩
theorem dX6_copy_101 : St mX6_copy 101 (.aload_n 0) 1 102 := ⟨by decide +kernel, rfl⟩
theorem dX6_copy_102 : St mX6_copy 102 (.getfield 41) 3 105 := ⟨by decide +kernel, rfl⟩
theorem dX6_copy_105 : St mX6_copy 105 (.iload_n 1) 1 106 := ⟨by decide +kernel, rfl⟩
theorem dX6_copy_106 : St mX6_copy 106 (.aaload) 1 107 := ⟨by decide +kernel, rfl⟩
theorem dX6_copy_107 : St mX6_copy 107 (.getfield 247) 3 110 := ⟨by decide +kernel, rfl⟩
theorem dX6_copy_110 : St mX6_copy 110 (.iload_n 2) 1 111 := ⟨by decide +kernel, rfl⟩
theorem dX6_copy_111 : St mX6_copy 111 (.aload_n 0) 1 112 := ⟨by decide +kernel, rfl⟩
theorem dX6_copy_112 : St mX6_copy 112 (.getfield 41) 3 115 := ⟨by decide +kernel, rfl⟩
theorem dX6_copy_115 : St mX6_copy 115 (.iload_n 3) 1 116 := ⟨by decide +kernel, rfl⟩
theorem dX6_copy_116 : St mX6_copy 116 (.aaload) 1 117 := ⟨by decide +kernel, rfl⟩
theorem dX6_copy_117 : St mX6_copy 117 (.getfield 247) 3 120 := ⟨by decide +kernel, rfl⟩
theorem dX6_copy_120 : St mX6_copy 120 (.iload 4) 2 122 := ⟨by decide +kernel, rfl⟩
theorem dX6_copy_122 : St mX6_copy 122 (.iload 5) 2 124 := ⟨by decide +kernel, rfl⟩
theorem dX6_copy_124 : St mX6_copy 124 (.invokestatic 251) 3 127 := ⟨by decide +kernel, rfl⟩
theorem dX6_copy_127 : St mX6_copy 127 (.iload 5) 2 129 := ⟨by decide +kernel, rfl⟩
theorem dX6_copy_129 : St mX6_copy 129 (.ireturn) 1 130 := ⟨by decide +kernel, rfl⟩
theorem dX6_refusalOfWeeks_0 : St mX6_refusalOfWeeks 0 (.iload_n 1) 1 1 := ⟨by decide +kernel, rfl⟩
theorem dX6_refusalOfWeeks_1 : St mX6_refusalOfWeeks 1 (.iconst 1) 1 2 := ⟨by decide +kernel, rfl⟩
theorem dX6_refusalOfWeeks_2 : St mX6_refusalOfWeeks 2 (.bipush 52) 2 4 := ⟨by decide +kernel, rfl⟩
theorem dX6_refusalOfWeeks_4 : St mX6_refusalOfWeeks 4 (.invokestatic 46) 3 7 := ⟨by decide +kernel, rfl⟩
theorem dX6_refusalOfWeeks_7 : St mX6_refusalOfWeeks 7 (.ifCond .ne 5) 3 10 := ⟨by decide +kernel, rfl⟩
theorem dX6_refusalOfWeeks_10 : St mX6_refusalOfWeeks 10 (.iconst (-1)) 1 11 := ⟨by decide +kernel, rfl⟩
theorem dX6_refusalOfWeeks_11 : St mX6_refusalOfWeeks 11 (.ireturn) 1 12 := ⟨by decide +kernel, rfl⟩
theorem dX6_refusalOfWeeks_12 : St mX6_refusalOfWeeks 12 (.aload_n 0) 1 13 := ⟨by decide +kernel, rfl⟩
theorem dX6_refusalOfWeeks_13 : St mX6_refusalOfWeeks 13 (.getfield 10) 3 16 := ⟨by decide +kernel, rfl⟩
theorem dX6_refusalOfWeeks_16 : St mX6_refusalOfWeeks 16 (.getfield 69) 3 19 := ⟨by decide +kernel, rfl⟩
theorem dX6_refusalOfWeeks_19 : St mX6_refusalOfWeeks 19 (.getfield 121) 3 22 := ⟨by decide +kernel, rfl⟩
theorem dX6_refusalOfWeeks_22 : St mX6_refusalOfWeeks 22 (.iload_n 1) 1 23 := ⟨by decide +kernel, rfl⟩
theorem dX6_refusalOfWeeks_23 : St mX6_refusalOfWeeks 23 (.iadd) 1 24 := ⟨by decide +kernel, rfl⟩
theorem dX6_refusalOfWeeks_24 : St mX6_refusalOfWeeks 24 (.sipush 9999) 3 27 := ⟨by decide +kernel, rfl⟩
theorem dX6_refusalOfWeeks_27 : St mX6_refusalOfWeeks 27 (.if_icmp .le 8) 3 30 := ⟨by decide +kernel, rfl⟩
theorem dX6_refusalOfWeeks_30 : St mX6_refusalOfWeeks 30 (.bipush (-3)) 2 32 := ⟨by decide +kernel, rfl⟩
theorem dX6_refusalOfWeeks_32 : St mX6_refusalOfWeeks 32 (.goto 4) 3 35 := ⟨by decide +kernel, rfl⟩
theorem dX6_refusalOfWeeks_35 : St mX6_refusalOfWeeks 35 (.iconst 0) 1 36 := ⟨by decide +kernel, rfl⟩
theorem dX6_refusalOfWeeks_36 : St mX6_refusalOfWeeks 36 (.ireturn) 1 37 := ⟨by decide +kernel, rfl⟩
theorem dX6_within_0 : St mX6_within 0 (.iload_n 0) 1 1 := ⟨by decide +kernel, rfl⟩
theorem dX6_within_1 : St mX6_within 1 (.iload_n 1) 1 2 := ⟨by decide +kernel, rfl⟩
theorem dX6_within_2 : St mX6_within 2 (.if_icmp .lt 12) 3 5 := ⟨by decide +kernel, rfl⟩
theorem dX6_within_5 : St mX6_within 5 (.iload_n 0) 1 6 := ⟨by decide +kernel, rfl⟩
theorem dX6_within_6 : St mX6_within 6 (.iload_n 2) 1 7 := ⟨by decide +kernel, rfl⟩
theorem dX6_within_7 : St mX6_within 7 (.if_icmp .gt 7) 3 10 := ⟨by decide +kernel, rfl⟩
theorem dX6_within_10 : St mX6_within 10 (.iconst 1) 1 11 := ⟨by decide +kernel, rfl⟩
theorem dX6_within_11 : St mX6_within 11 (.goto 4) 3 14 := ⟨by decide +kernel, rfl⟩
theorem dX6_within_14 : St mX6_within 14 (.iconst 0) 1 15 := ⟨by decide +kernel, rfl⟩
theorem dX6_within_15 : St mX6_within 15 (.ireturn) 1 16 := ⟨by decide +kernel, rfl⟩
theorem dX6_isSheet_0 : St mX6_isSheet 0 (.iload_n 0) 1 1 := ⟨by decide +kernel, rfl⟩
theorem dX6_isSheet_1 : St mX6_isSheet 1 (.iconst 0) 1 2 := ⟨by decide +kernel, rfl⟩
theorem dX6_isSheet_2 : St mX6_isSheet 2 (.iconst 3) 1 3 := ⟨by decide +kernel, rfl⟩
theorem dX6_isSheet_3 : St mX6_isSheet 3 (.invokestatic 46) 3 6 := ⟨by decide +kernel, rfl⟩
theorem dX6_isSheet_6 : St mX6_isSheet 6 (.ireturn) 1 7 := ⟨by decide +kernel, rfl⟩
theorem dX6_isLane_0 : St mX6_isLane 0 (.iload_n 0) 1 1 := ⟨by decide +kernel, rfl⟩
theorem dX6_isLane_1 : St mX6_isLane 1 (.iconst 0) 1 2 := ⟨by decide +kernel, rfl⟩
theorem dX6_isLane_2 : St mX6_isLane 2 (.iconst 3) 1 3 := ⟨by decide +kernel, rfl⟩
theorem dX6_isLane_3 : St mX6_isLane 3 (.invokestatic 46) 3 6 := ⟨by decide +kernel, rfl⟩
theorem dX6_isLane_6 : St mX6_isLane 6 (.ireturn) 1 7 := ⟨by decide +kernel, rfl⟩
theorem dX6_asQuarrel_0 : St mX6_asQuarrel 0 (.iconst 0) 1 1 := ⟨by decide +kernel, rfl⟩
theorem dX6_asQuarrel_1 : St mX6_asQuarrel 1 (.bipush 99) 2 3 := ⟨by decide +kernel, rfl⟩
theorem dX6_asQuarrel_3 : St mX6_asQuarrel 3 (.iload_n 0) 1 4 := ⟨by decide +kernel, rfl⟩
theorem dX6_asQuarrel_4 : St mX6_asQuarrel 4 (.invokestatic 257) 3 7 := ⟨by decide +kernel, rfl⟩
theorem dX6_asQuarrel_7 : St mX6_asQuarrel 7 (.invokestatic 262) 3 10 := ⟨by decide +kernel, rfl⟩
theorem dX6_asQuarrel_10 : St mX6_asQuarrel 10 (.ireturn) 1 11 := ⟨by decide +kernel, rfl⟩
theorem dX6_coursesFor_0 : St mX6_coursesFor 0 (.iload_n 0) 1 1 := ⟨by decide +kernel, rfl⟩
theorem dX6_coursesFor_1 : St mX6_coursesFor 1 (.iconst 5) 1 2 := ⟨by decide +kernel, rfl⟩
theorem dX6_coursesFor_2 : St mX6_coursesFor 2 (.idiv) 1 3 := ⟨by decide +kernel, rfl⟩
theorem dX6_coursesFor_3 : St mX6_coursesFor 3 (.ireturn) 1 4 := ⟨by decide +kernel, rfl⟩
theorem dX6_lessAThird_0 : St mX6_lessAThird 0 (.iload_n 0) 1 1 := ⟨by decide +kernel, rfl⟩
theorem dX6_lessAThird_1 : St mX6_lessAThird 1 (.iload_n 0) 1 2 := ⟨by decide +kernel, rfl⟩
theorem dX6_lessAThird_2 : St mX6_lessAThird 2 (.iconst 3) 1 3 := ⟨by decide +kernel, rfl⟩
theorem dX6_lessAThird_3 : St mX6_lessAThird 3 (.idiv) 1 4 := ⟨by decide +kernel, rfl⟩
theorem dX6_lessAThird_4 : St mX6_lessAThird 4 (.isub) 1 5 := ⟨by decide +kernel, rfl⟩
theorem dX6_lessAThird_5 : St mX6_lessAThird 5 (.ireturn) 1 6 := ⟨by decide +kernel, rfl⟩
theorem dX6_rootOf_0 : St mX6_rootOf 0 (.iconst 0) 1 1 := ⟨by decide +kernel, rfl⟩
theorem dX6_rootOf_1 : St mX6_rootOf 1 (.istore_n 1) 1 2 := ⟨by decide +kernel, rfl⟩
theorem dX6_rootOf_2 : St mX6_rootOf 2 (.iconst 1) 1 3 := ⟨by decide +kernel, rfl⟩
theorem dX6_rootOf_3 : St mX6_rootOf 3 (.istore_n 2) 1 4 := ⟨by decide +kernel, rfl⟩
theorem dX6_rootOf_4 : St mX6_rootOf 4 (.iload_n 2) 1 5 := ⟨by decide +kernel, rfl⟩
theorem dX6_rootOf_5 : St mX6_rootOf 5 (.bipush 20) 2 7 := ⟨by decide +kernel, rfl⟩
theorem dX6_rootOf_7 : St mX6_rootOf 7 (.if_icmp .gt 18) 3 10 := ⟨by decide +kernel, rfl⟩
theorem dX6_rootOf_10 : St mX6_rootOf 10 (.iload_n 2) 1 11 := ⟨by decide +kernel, rfl⟩
theorem dX6_rootOf_11 : St mX6_rootOf 11 (.iload_n 2) 1 12 := ⟨by decide +kernel, rfl⟩
theorem dX6_rootOf_12 : St mX6_rootOf 12 (.imul) 1 13 := ⟨by decide +kernel, rfl⟩
theorem dX6_rootOf_13 : St mX6_rootOf 13 (.iload_n 0) 1 14 := ⟨by decide +kernel, rfl⟩
theorem dX6_rootOf_14 : St mX6_rootOf 14 (.if_icmp .gt 11) 3 17 := ⟨by decide +kernel, rfl⟩
theorem dX6_rootOf_17 : St mX6_rootOf 17 (.iload_n 2) 1 18 := ⟨by decide +kernel, rfl⟩
theorem dX6_rootOf_18 : St mX6_rootOf 18 (.istore_n 1) 1 19 := ⟨by decide +kernel, rfl⟩
theorem dX6_rootOf_19 : St mX6_rootOf 19 (.iinc 2 1) 3 22 := ⟨by decide +kernel, rfl⟩
theorem dX6_rootOf_22 : St mX6_rootOf 22 (.goto (-18)) 3 25 := ⟨by decide +kernel, rfl⟩
theorem dX6_rootOf_25 : St mX6_rootOf 25 (.iload_n 1) 1 26 := ⟨by decide +kernel, rfl⟩
theorem dX6_rootOf_26 : St mX6_rootOf 26 (.ireturn) 1 27 := ⟨by decide +kernel, rfl⟩
theorem dX6_sum_0 : St mX6_sum 0 (.iconst 0) 1 1 := ⟨by decide +kernel, rfl⟩
theorem dX6_sum_1 : St mX6_sum 1 (.istore_n 2) 1 2 := ⟨by decide +kernel, rfl⟩
theorem dX6_sum_2 : St mX6_sum 2 (.iconst 0) 1 3 := ⟨by decide +kernel, rfl⟩
theorem dX6_sum_3 : St mX6_sum 3 (.istore_n 3) 1 4 := ⟨by decide +kernel, rfl⟩
theorem dX6_sum_4 : St mX6_sum 4 (.iload_n 3) 1 5 := ⟨by decide +kernel, rfl⟩
theorem dX6_sum_5 : St mX6_sum 5 (.iload_n 1) 1 6 := ⟨by decide +kernel, rfl⟩
theorem dX6_sum_6 : St mX6_sum 6 (.if_icmp .ge 21) 3 9 := ⟨by decide +kernel, rfl⟩
theorem dX6_sum_9 : St mX6_sum 9 (.iload_n 3) 1 10 := ⟨by decide +kernel, rfl⟩
theorem dX6_sum_10 : St mX6_sum 10 (.aload_n 0) 1 11 := ⟨by decide +kernel, rfl⟩
theorem dX6_sum_11 : St mX6_sum 11 (.arraylength) 1 12 := ⟨by decide +kernel, rfl⟩
theorem dX6_sum_12 : St mX6_sum 12 (.if_icmp .ge 15) 3 15 := ⟨by decide +kernel, rfl⟩
theorem dX6_sum_15 : St mX6_sum 15 (.iload_n 2) 1 16 := ⟨by decide +kernel, rfl⟩
theorem dX6_sum_16 : St mX6_sum 16 (.aload_n 0) 1 17 := ⟨by decide +kernel, rfl⟩
theorem dX6_sum_17 : St mX6_sum 17 (.iload_n 3) 1 18 := ⟨by decide +kernel, rfl⟩
theorem dX6_sum_18 : St mX6_sum 18 (.iaload) 1 19 := ⟨by decide +kernel, rfl⟩
theorem dX6_sum_19 : St mX6_sum 19 (.iadd) 1 20 := ⟨by decide +kernel, rfl⟩
theorem dX6_sum_20 : St mX6_sum 20 (.istore_n 2) 1 21 := ⟨by decide +kernel, rfl⟩
theorem dX6_sum_21 : St mX6_sum 21 (.iinc 3 1) 3 24 := ⟨by decide +kernel, rfl⟩
theorem dX6_sum_24 : St mX6_sum 24 (.goto (-20)) 3 27 := ⟨by decide +kernel, rfl⟩
theorem dX6_sum_27 : St mX6_sum 27 (.iload_n 2) 1 28 := ⟨by decide +kernel, rfl⟩
theorem dX6_sum_28 : St mX6_sum 28 (.ireturn) 1 29 := ⟨by decide +kernel, rfl⟩
end
section
theorem dX7_init_0 : St mX7_init 0 (.aload_n 0) 1 1 := ⟨by decide +kernel, rfl⟩
theorem dX7_init_1 : St mX7_init 1 (.invokespecial 1) 3 4 := ⟨by decide +kernel, rfl⟩
theorem dX7_init_4 : St mX7_init 4 (.aload_n 0) 1 5 := ⟨by decide +kernel, rfl⟩
theorem dX7_init_5 : St mX7_init 5 (.sipush 223) 3 8 := ⟨by decide +kernel, rfl⟩
theorem dX7_init_8 : St mX7_init 8 (.newarray .int) 2 10 := ⟨by decide +kernel, rfl⟩
theorem dX7_init_10 : St mX7_init 10 (.putfield 7) 3 13 := ⟨by decide +kernel, rfl⟩
theorem dX7_init_13 : St mX7_init 13 (.aload_n 0) 1 14 := ⟨by decide +kernel, rfl⟩
theorem dX7_init_14 : St mX7_init 14 (.sipush 223) 3 17 := ⟨by decide +kernel, rfl⟩
theorem dX7_init_17 : St mX7_init 17 (.newarray .int) 2 19 := ⟨by decide +kernel, rfl⟩
theorem dX7_init_19 : St mX7_init 19 (.putfield 13) 3 22 := ⟨by decide +kernel, rfl⟩
theorem dX7_init_22 : St mX7_init 22 (.aload_n 0) 1 23 := ⟨by decide +kernel, rfl⟩
theorem dX7_init_23 : St mX7_init 23 (.sipush 223) 3 26 := ⟨by decide +kernel, rfl⟩
theorem dX7_init_26 : St mX7_init 26 (.newarray .int) 2 28 := ⟨by decide +kernel, rfl⟩
theorem dX7_init_28 : St mX7_init 28 (.putfield 16) 3 31 := ⟨by decide +kernel, rfl⟩
theorem dX7_init_31 : St mX7_init 31 (.aload_n 0) 1 32 := ⟨by decide +kernel, rfl⟩
theorem dX7_init_32 : St mX7_init 32 (.sipush 223) 3 35 := ⟨by decide +kernel, rfl⟩
theorem dX7_init_35 : St mX7_init 35 (.newarray .int) 2 37 := ⟨by decide +kernel, rfl⟩
theorem dX7_init_37 : St mX7_init 37 (.putfield 19) 3 40 := ⟨by decide +kernel, rfl⟩
theorem dX7_init_40 : St mX7_init 40 (.aload_n 0) 1 41 := ⟨by decide +kernel, rfl⟩
theorem dX7_init_41 : St mX7_init 41 (.bipush 60) 2 43 := ⟨by decide +kernel, rfl⟩
theorem dX7_init_43 : St mX7_init 43 (.newarray .int) 2 45 := ⟨by decide +kernel, rfl⟩
theorem dX7_init_45 : St mX7_init 45 (.putfield 22) 3 48 := ⟨by decide +kernel, rfl⟩
theorem dX7_init_48 : St mX7_init 48 (.aload_n 0) 1 49 := ⟨by decide +kernel, rfl⟩
theorem dX7_init_49 : St mX7_init 49 (.iconst 4) 1 50 := ⟨by decide +kernel, rfl⟩
theorem dX7_init_50 : St mX7_init 50 (.newarray .int) 2 52 := ⟨by decide +kernel, rfl⟩
theorem dX7_init_52 : St mX7_init 52 (.putfield 25) 3 55 := ⟨by decide +kernel, rfl⟩
theorem dX7_init_55 : St mX7_init 55 (.aload_n 0) 1 56 := ⟨by decide +kernel, rfl⟩
theorem dX7_init_56 : St mX7_init 56 (.iconst 4) 1 57 := ⟨by decide +kernel, rfl⟩
theorem dX7_init_57 : St mX7_init 57 (.newarray .int) 2 59 := ⟨by decide +kernel, rfl⟩
theorem dX7_init_59 : St mX7_init 59 (.putfield 28) 3 62 := ⟨by decide +kernel, rfl⟩
theorem dX7_init_62 : St mX7_init 62 (.aload_n 0) 1 63 := ⟨by decide +kernel, rfl⟩
theorem dX7_init_63 : St mX7_init 63 (.bipush 96) 2 65 := ⟨by decide +kernel, rfl⟩
theorem dX7_init_65 : St mX7_init 65 (.newarray .long) 2 67 := ⟨by decide +kernel, rfl⟩
theorem dX7_init_67 : St mX7_init 67 (.putfield 31) 3 70 := ⟨by decide +kernel, rfl⟩
theorem dX7_init_70 : St mX7_init 70 (.aload_n 0) 1 71 := ⟨by decide +kernel, rfl⟩
theorem dX7_init_71 : St mX7_init 71 (.getfield 7) 3 74 := ⟨by decide +kernel, rfl⟩
theorem dX7_init_74 : St mX7_init 74 (.bipush 12) 2 76 := ⟨by decide +kernel, rfl⟩
theorem dX7_init_76 : St mX7_init 76 (.iconst 1) 1 77 := ⟨by decide +kernel, rfl⟩
theorem dX7_init_77 : St mX7_init 77 (.iconst 1) 1 78 := ⟨by decide +kernel, rfl⟩
theorem dX7_init_78 : St mX7_init 78 (.invokestatic 35) 3 81 := ⟨by decide +kernel, rfl⟩
theorem dX7_init_81 : St mX7_init 81 (.iconst 0) 1 82 := ⟨by decide +kernel, rfl⟩
theorem dX7_init_82 : St mX7_init 82 (.istore_n 1) 1 83 := ⟨by decide +kernel, rfl⟩
theorem dX7_init_83 : St mX7_init 83 (.iload_n 1) 1 84 := ⟨by decide +kernel, rfl⟩
theorem dX7_init_84 : St mX7_init 84 (.iconst 4) 1 85 := ⟨by decide +kernel, rfl⟩
theorem dX7_init_85 : St mX7_init 85 (.if_icmp .ge 16) 3 88 := ⟨by decide +kernel, rfl⟩
theorem dX7_init_88 : St mX7_init 88 (.aload_n 0) 1 89 := ⟨by decide +kernel, rfl⟩
theorem dX7_init_89 : St mX7_init 89 (.getfield 28) 3 92 := ⟨by decide +kernel, rfl⟩
theorem dX7_init_92 : St mX7_init 92 (.iload_n 1) 1 93 := ⟨by decide +kernel, rfl⟩
theorem dX7_init_93 : St mX7_init 93 (.iconst (-1)) 1 94 := ⟨by decide +kernel, rfl⟩
theorem dX7_init_94 : St mX7_init 94 (.iastore) 1 95 := ⟨by decide +kernel, rfl⟩
theorem dX7_init_95 : St mX7_init 95 (.iinc 1 1) 3 98 := ⟨by decide +kernel, rfl⟩
theorem dX7_init_98 : St mX7_init 98 (.goto (-15)) 3 101 := ⟨by decide +kernel, rfl⟩
theorem dX7_init_101 : St mX7_init 101 (.return_) 1 102 := ⟨by decide +kernel, rfl⟩
theorem dX7_in_0 : St mX7_in 0 (.lload_n 0) 1 1 := ⟨by decide +kernel, rfl⟩
theorem dX7_in_1 : St mX7_in 1 (.lload_n 2) 1 2 := ⟨by decide +kernel, rfl⟩
theorem dX7_in_2 : St mX7_in 2 (.lcmp) 1 3 := ⟨by decide +kernel, rfl⟩
theorem dX7_in_3 : St mX7_in 3 (.ifCond .lt 14) 3 6 := ⟨by decide +kernel, rfl⟩
theorem dX7_in_6 : St mX7_in 6 (.lload_n 0) 1 7 := ⟨by decide +kernel, rfl⟩
theorem dX7_in_7 : St mX7_in 7 (.lload 4) 2 9 := ⟨by decide +kernel, rfl⟩
theorem dX7_in_9 : St mX7_in 9 (.lcmp) 1 10 := ⟨by decide +kernel, rfl⟩
theorem dX7_in_10 : St mX7_in 10 (.ifCond .gt 7) 3 13 := ⟨by decide +kernel, rfl⟩
theorem dX7_in_13 : St mX7_in 13 (.iconst 1) 1 14 := ⟨by decide +kernel, rfl⟩
theorem dX7_in_14 : St mX7_in 14 (.goto 4) 3 17 := ⟨by decide +kernel, rfl⟩
theorem dX7_in_17 : St mX7_in 17 (.iconst 0) 1 18 := ⟨by decide +kernel, rfl⟩
theorem dX7_in_18 : St mX7_in 18 (.ireturn) 1 19 := ⟨by decide +kernel, rfl⟩
theorem dX7_has_0 : St mX7_has 0 (.iload_n 0) 1 1 := ⟨by decide +kernel, rfl⟩
theorem dX7_has_1 : St mX7_has 1 (.iload_n 1) 1 2 := ⟨by decide +kernel, rfl⟩
theorem dX7_has_2 : St mX7_has 2 (.ishr) 1 3 := ⟨by decide +kernel, rfl⟩
theorem dX7_has_3 : St mX7_has 3 (.iconst 1) 1 4 := ⟨by decide +kernel, rfl⟩
theorem dX7_has_4 : St mX7_has 4 (.iand) 1 5 := ⟨by decide +kernel, rfl⟩
theorem dX7_has_5 : St mX7_has 5 (.iconst 1) 1 6 := ⟨by decide +kernel, rfl⟩
theorem dX7_has_6 : St mX7_has 6 (.if_icmp .ne 7) 3 9 := ⟨by decide +kernel, rfl⟩
theorem dX7_has_9 : St mX7_has 9 (.iconst 1) 1 10 := ⟨by decide +kernel, rfl⟩
theorem dX7_has_10 : St mX7_has 10 (.goto 4) 3 13 := ⟨by decide +kernel, rfl⟩
theorem dX7_has_13 : St mX7_has 13 (.iconst 0) 1 14 := ⟨by decide +kernel, rfl⟩
theorem dX7_has_14 : St mX7_has 14 (.ireturn) 1 15 := ⟨by decide +kernel, rfl⟩
theorem dX7_bits_0 : St mX7_bits 0 (.iconst 0) 1 1 := ⟨by decide +kernel, rfl⟩
theorem dX7_bits_1 : St mX7_bits 1 (.istore_n 1) 1 2 := ⟨by decide +kernel, rfl⟩
theorem dX7_bits_2 : St mX7_bits 2 (.iload_n 0) 1 3 := ⟨by decide +kernel, rfl⟩
theorem dX7_bits_3 : St mX7_bits 3 (.istore_n 2) 1 4 := ⟨by decide +kernel, rfl⟩
theorem dX7_bits_4 : St mX7_bits 4 (.iload_n 2) 1 5 := ⟨by decide +kernel, rfl⟩
theorem dX7_bits_5 : St mX7_bits 5 (.ifCond .eq 15) 3 8 := ⟨by decide +kernel, rfl⟩
theorem dX7_bits_8 : St mX7_bits 8 (.iinc 1 1) 3 11 := ⟨by decide +kernel, rfl⟩
theorem dX7_bits_11 : St mX7_bits 11 (.iload_n 2) 1 12 := ⟨by decide +kernel, rfl⟩
theorem dX7_bits_12 : St mX7_bits 12 (.iload_n 2) 1 13 := ⟨by decide +kernel, rfl⟩
theorem dX7_bits_13 : St mX7_bits 13 (.iconst 1) 1 14 := ⟨by decide +kernel, rfl⟩
theorem dX7_bits_14 : St mX7_bits 14 (.isub) 1 15 := ⟨by decide +kernel, rfl⟩
theorem dX7_bits_15 : St mX7_bits 15 (.iand) 1 16 := ⟨by decide +kernel, rfl⟩
theorem dX7_bits_16 : St mX7_bits 16 (.istore_n 2) 1 17 := ⟨by decide +kernel, rfl⟩
theorem dX7_bits_17 : St mX7_bits 17 (.goto (-13)) 3 20 := ⟨by decide +kernel, rfl⟩
theorem dX7_bits_20 : St mX7_bits 20 (.iload_n 1) 1 21 := ⟨by decide +kernel, rfl⟩
theorem dX7_bits_21 : St mX7_bits 21 (.ireturn) 1 22 := ⟨by decide +kernel, rfl⟩
theorem dX7_copies_0 : St mX7_copies 0 (.iconst 0) 1 1 := ⟨by decide +kernel, rfl⟩
theorem dX7_copies_1 : St mX7_copies 1 (.istore 5) 2 3 := ⟨by decide +kernel, rfl⟩
theorem dX7_copies_3 : St mX7_copies 3 (.iload 5) 2 5 := ⟨by decide +kernel, rfl⟩
theorem dX7_copies_5 : St mX7_copies 5 (.iload 4) 2 7 := ⟨by decide +kernel, rfl⟩
theorem dX7_copies_7 : St mX7_copies 7 (.if_icmp .ge 21) 3 10 := ⟨by decide +kernel, rfl⟩
theorem dX7_copies_10 : St mX7_copies 10 (.aload_n 2) 1 11 := ⟨by decide +kernel, rfl⟩
theorem dX7_copies_11 : St mX7_copies 11 (.iload_n 3) 1 12 := ⟨by decide +kernel, rfl⟩
theorem dX7_copies_12 : St mX7_copies 12 (.iload 5) 2 14 := ⟨by decide +kernel, rfl⟩
theorem dX7_copies_14 : St mX7_copies 14 (.iadd) 1 15 := ⟨by decide +kernel, rfl⟩
theorem dX7_copies_15 : St mX7_copies 15 (.aload_n 0) 1 16 := ⟨by decide +kernel, rfl⟩
theorem dX7_copies_16 : St mX7_copies 16 (.iload_n 1) 1 17 := ⟨by decide +kernel, rfl⟩
theorem dX7_copies_17 : St mX7_copies 17 (.iload 5) 2 19 := ⟨by decide +kernel, rfl⟩
theorem dX7_copies_19 : St mX7_copies 19 (.iadd) 1 20 := ⟨by decide +kernel, rfl⟩
theorem dX7_copies_20 : St mX7_copies 20 (.iaload) 1 21 := ⟨by decide +kernel, rfl⟩
theorem dX7_copies_21 : St mX7_copies 21 (.iastore) 1 22 := ⟨by decide +kernel, rfl⟩
theorem dX7_copies_22 : St mX7_copies 22 (.iinc 5 1) 3 25 := ⟨by decide +kernel, rfl⟩
theorem dX7_copies_25 : St mX7_copies 25 (.goto (-22)) 3 28 := ⟨by decide +kernel, rfl⟩
theorem dX7_copies_28 : St mX7_copies 28 (.return_) 1 29 := ⟨by decide +kernel, rfl⟩
theorem dX7_begins_0 : St mX7_begins 0 (.iconst 0) 1 1 := ⟨by decide +kernel, rfl⟩
theorem dX7_begins_1 : St mX7_begins 1 (.istore 4) 2 3 := ⟨by decide +kernel, rfl⟩
theorem dX7_begins_3 : St mX7_begins 3 (.iload 4) 2 5 := ⟨by decide +kernel, rfl⟩
theorem dX7_begins_5 : St mX7_begins 5 (.sipush 223) 3 8 := ⟨by decide +kernel, rfl⟩
theorem dX7_begins_8 : St mX7_begins 8 (.if_icmp .ge 34) 3 11 := ⟨by decide +kernel, rfl⟩
theorem dX7_begins_11 : St mX7_begins 11 (.aload_n 0) 1 12 := ⟨by decide +kernel, rfl⟩
theorem dX7_begins_12 : St mX7_begins 12 (.iload 4) 2 14 := ⟨by decide +kernel, rfl⟩
theorem dX7_begins_14 : St mX7_begins 14 (.iload 4) 2 16 := ⟨by decide +kernel, rfl⟩
theorem dX7_begins_16 : St mX7_begins 16 (.i2l) 1 17 := ⟨by decide +kernel, rfl⟩
theorem dX7_begins_17 : St mX7_begins 17 (.ldc2_w 39) 3 20 := ⟨by decide +kernel, rfl⟩
theorem dX7_begins_20 : St mX7_begins 20 (.ldc2_w 41) 3 23 := ⟨by decide +kernel, rfl⟩
theorem dX7_begins_23 : St mX7_begins 23 (.invokestatic 43) 3 26 := ⟨by decide +kernel, rfl⟩
theorem dX7_begins_26 : St mX7_begins 26 (.ifCond .eq 8) 3 29 := ⟨by decide +kernel, rfl⟩
theorem dX7_begins_29 : St mX7_begins 29 (.bipush (-99)) 2 31 := ⟨by decide +kernel, rfl⟩
theorem dX7_begins_31 : St mX7_begins 31 (.goto 4) 3 34 := ⟨by decide +kernel, rfl⟩
theorem dX7_begins_34 : St mX7_begins 34 (.iconst 0) 1 35 := ⟨by decide +kernel, rfl⟩
theorem dX7_begins_35 : St mX7_begins 35 (.iastore) 1 36 := ⟨by decide +kernel, rfl⟩
theorem dX7_begins_36 : St mX7_begins 36 (.iinc 4 1) 3 39 := ⟨by decide +kernel, rfl⟩
theorem dX7_begins_39 : St mX7_begins 39 (.goto (-36)) 3 42 := ⟨by decide +kernel, rfl⟩
theorem dX7_begins_42 : St mX7_begins 42 (.aload_n 0) 1 43 := ⟨by decide +kernel, rfl⟩
theorem dX7_begins_43 : St mX7_begins 43 (.iconst 1) 1 44 := ⟨by decide +kernel, rfl⟩
theorem dX7_begins_44 : St mX7_begins 44 (.iload_n 1) 1 45 := ⟨by decide +kernel, rfl⟩
theorem dX7_begins_45 : St mX7_begins 45 (.iastore) 1 46 := ⟨by decide +kernel, rfl⟩
theorem dX7_begins_46 : St mX7_begins 46 (.aload_n 0) 1 47 := ⟨by decide +kernel, rfl⟩
theorem dX7_begins_47 : St mX7_begins 47 (.iconst 2) 1 48 := ⟨by decide +kernel, rfl⟩
theorem dX7_begins_48 : St mX7_begins 48 (.iload_n 2) 1 49 := ⟨by decide +kernel, rfl⟩
theorem dX7_begins_49 : St mX7_begins 49 (.iastore) 1 50 := ⟨by decide +kernel, rfl⟩
theorem dX7_begins_50 : St mX7_begins 50 (.aload_n 0) 1 51 := ⟨by decide +kernel, rfl⟩
theorem dX7_begins_51 : St mX7_begins 51 (.bipush 37) 2 53 := ⟨by decide +kernel, rfl⟩
theorem dX7_begins_53 : St mX7_begins 53 (.iload_n 3) 1 54 := ⟨by decide +kernel, rfl⟩
theorem dX7_begins_54 : St mX7_begins 54 (.iastore) 1 55 := ⟨by decide +kernel, rfl⟩
theorem dX7_begins_55 : St mX7_begins 55 (.return_) 1 56 := ⟨by decide +kernel, rfl⟩
theorem dX7_isGarden_0 : St mX7_isGarden 0 (.iload_n 1) 1 1 := ⟨by decide +kernel, rfl⟩
theorem dX7_isGarden_1 : St mX7_isGarden 1 (.i2l) 1 2 := ⟨by decide +kernel, rfl⟩
theorem dX7_isGarden_2 : St mX7_isGarden 2 (.lconst 0) 1 3 := ⟨by decide +kernel, rfl⟩
theorem dX7_isGarden_3 : St mX7_isGarden 3 (.aload_n 0) 1 4 := ⟨by decide +kernel, rfl⟩
theorem dX7_isGarden_4 : St mX7_isGarden 4 (.getfield 7) 3 7 := ⟨by decide +kernel, rfl⟩
theorem dX7_isGarden_7 : St mX7_isGarden 7 (.iconst 0) 1 8 := ⟨by decide +kernel, rfl⟩
theorem dX7_isGarden_8 : St mX7_isGarden 8 (.iaload) 1 9 := ⟨by decide +kernel, rfl⟩
theorem dX7_isGarden_9 : St mX7_isGarden 9 (.iconst 1) 1 10 := ⟨by decide +kernel, rfl⟩
theorem dX7_isGarden_10 : St mX7_isGarden 10 (.isub) 1 11 := ⟨by decide +kernel, rfl⟩
theorem dX7_isGarden_11 : St mX7_isGarden 11 (.i2l) 1 12 := ⟨by decide +kernel, rfl⟩
theorem dX7_isGarden_12 : St mX7_isGarden 12 (.invokestatic 43) 3 15 := ⟨by decide +kernel, rfl⟩
theorem dX7_isGarden_15 : St mX7_isGarden 15 (.ireturn) 1 16 := ⟨by decide +kernel, rfl⟩
theorem dX7_isWall_0 : St mX7_isWall 0 (.iload_n 1) 1 1 := ⟨by decide +kernel, rfl⟩
theorem dX7_isWall_1 : St mX7_isWall 1 (.i2l) 1 2 := ⟨by decide +kernel, rfl⟩
theorem dX7_isWall_2 : St mX7_isWall 2 (.lconst 0) 1 3 := ⟨by decide +kernel, rfl⟩
theorem dX7_isWall_3 : St mX7_isWall 3 (.aload_n 0) 1 4 := ⟨by decide +kernel, rfl⟩
theorem dX7_isWall_4 : St mX7_isWall 4 (.getfield 7) 3 7 := ⟨by decide +kernel, rfl⟩
theorem dX7_isWall_7 : St mX7_isWall 7 (.iconst 0) 1 8 := ⟨by decide +kernel, rfl⟩
theorem dX7_isWall_8 : St mX7_isWall 8 (.iaload) 1 9 := ⟨by decide +kernel, rfl⟩
theorem dX7_isWall_9 : St mX7_isWall 9 (.iconst 2) 1 10 := ⟨by decide +kernel, rfl⟩
theorem dX7_isWall_10 : St mX7_isWall 10 (.isub) 1 11 := ⟨by decide +kernel, rfl⟩
theorem dX7_isWall_11 : St mX7_isWall 11 (.i2l) 1 12 := ⟨by decide +kernel, rfl⟩
theorem dX7_isWall_12 : St mX7_isWall 12 (.invokestatic 43) 3 15 := ⟨by decide +kernel, rfl⟩
theorem dX7_isWall_15 : St mX7_isWall 15 (.ireturn) 1 16 := ⟨by decide +kernel, rfl⟩
theorem dX7_isTwo_0 : St mX7_isTwo 0 (.iload_n 0) 1 1 := ⟨by decide +kernel, rfl⟩
theorem dX7_isTwo_1 : St mX7_isTwo 1 (.i2l) 1 2 := ⟨by decide +kernel, rfl⟩
theorem dX7_isTwo_2 : St mX7_isTwo 2 (.lconst 0) 1 3 := ⟨by decide +kernel, rfl⟩
theorem dX7_isTwo_3 : St mX7_isTwo 3 (.lconst 1) 1 4 := ⟨by decide +kernel, rfl⟩
theorem dX7_isTwo_4 : St mX7_isTwo 4 (.invokestatic 43) 3 7 := ⟨by decide +kernel, rfl⟩
theorem dX7_isTwo_7 : St mX7_isTwo 7 (.ireturn) 1 8 := ⟨by decide +kernel, rfl⟩
theorem dX7_galls_0 : St mX7_galls 0 (.aload_n 0) 1 1 := ⟨by decide +kernel, rfl⟩
theorem dX7_galls_1 : St mX7_galls 1 (.iconst 4) 1 2 := ⟨by decide +kernel, rfl⟩
theorem dX7_galls_2 : St mX7_galls 2 (.iload_n 1) 1 3 := ⟨by decide +kernel, rfl⟩
theorem dX7_galls_3 : St mX7_galls 3 (.iadd) 1 4 := ⟨by decide +kernel, rfl⟩
theorem dX7_galls_4 : St mX7_galls 4 (.iaload) 1 5 := ⟨by decide +kernel, rfl⟩
theorem dX7_galls_5 : St mX7_galls 5 (.istore 4) 2 7 := ⟨by decide +kernel, rfl⟩
theorem dX7_galls_7 : St mX7_galls 7 (.iload 4) 2 9 := ⟨by decide +kernel, rfl⟩
theorem dX7_galls_9 : St mX7_galls 9 (.iconst 3) 1 10 := ⟨by decide +kernel, rfl⟩
theorem dX7_galls_10 : St mX7_galls 10 (.if_icmp .ne 7) 3 13 := ⟨by decide +kernel, rfl⟩
theorem dX7_galls_13 : St mX7_galls 13 (.iconst 0) 1 14 := ⟨by decide +kernel, rfl⟩
theorem dX7_galls_14 : St mX7_galls 14 (.goto 11) 3 17 := ⟨by decide +kernel, rfl⟩
theorem dX7_galls_17 : St mX7_galls 17 (.aload_n 0) 1 18 := ⟨by decide +kernel, rfl⟩
theorem dX7_galls_18 : St mX7_galls 18 (.bipush 10) 2 20 := ⟨by decide +kernel, rfl⟩
theorem dX7_galls_20 : St mX7_galls 20 (.iload_n 2) 1 21 := ⟨by decide +kernel, rfl⟩
theorem dX7_galls_21 : St mX7_galls 21 (.iadd) 1 22 := ⟨by decide +kernel, rfl⟩
theorem dX7_galls_22 : St mX7_galls 22 (.iaload) 1 23 := ⟨by decide +kernel, rfl⟩
theorem dX7_galls_23 : St mX7_galls 23 (.iconst 3) 1 24 := ⟨by decide +kernel, rfl⟩
theorem dX7_galls_24 : St mX7_galls 24 (.idiv) 1 25 := ⟨by decide +kernel, rfl⟩
theorem dX7_galls_25 : St mX7_galls 25 (.aload_n 0) 1 26 := ⟨by decide +kernel, rfl⟩
theorem dX7_galls_26 : St mX7_galls 26 (.bipush 22) 2 28 := ⟨by decide +kernel, rfl⟩
theorem dX7_galls_28 : St mX7_galls 28 (.iload_n 3) 1 29 := ⟨by decide +kernel, rfl⟩
theorem dX7_galls_29 : St mX7_galls 29 (.iadd) 1 30 := ⟨by decide +kernel, rfl⟩
theorem dX7_galls_30 : St mX7_galls 30 (.iaload) 1 31 := ⟨by decide +kernel, rfl⟩
theorem dX7_galls_31 : St mX7_galls 31 (.iconst 5) 1 32 := ⟨by decide +kernel, rfl⟩
theorem dX7_galls_32 : St mX7_galls 32 (.idiv) 1 33 := ⟨by decide +kernel, rfl⟩
theorem dX7_galls_33 : St mX7_galls 33 (.iadd) 1 34 := ⟨by decide +kernel, rfl⟩
theorem dX7_galls_34 : St mX7_galls 34 (.istore 5) 2 36 := ⟨by decide +kernel, rfl⟩
theorem dX7_galls_36 : St mX7_galls 36 (.iload 4) 2 38 := ⟨by decide +kernel, rfl⟩
theorem dX7_galls_38 : St mX7_galls 38 (.tableswitch 56 1 4 #[30, 35, 35, 49]) 30 68 := ⟨by decide +kernel, rfl⟩
theorem dX7_galls_68 : St mX7_galls 68 (.iconst 2) 1 69 := ⟨by decide +kernel, rfl⟩
theorem dX7_galls_69 : St mX7_galls 69 (.iload 5) 2 71 := ⟨by decide +kernel, rfl⟩
theorem dX7_galls_71 : St mX7_galls 71 (.imul) 1 72 := ⟨by decide +kernel, rfl⟩
theorem dX7_galls_72 : St mX7_galls 72 (.ireturn) 1 73 := ⟨by decide +kernel, rfl⟩
theorem dX7_galls_73 : St mX7_galls 73 (.iload 5) 2 75 := ⟨by decide +kernel, rfl⟩
theorem dX7_galls_75 : St mX7_galls 75 (.ifCond .le 10) 3 78 := ⟨by decide +kernel, rfl⟩
theorem dX7_galls_78 : St mX7_galls 78 (.iload 5) 2 80 := ⟨by decide +kernel, rfl⟩
theorem dX7_galls_80 : St mX7_galls 80 (.iconst 1) 1 81 := ⟨by decide +kernel, rfl⟩
theorem dX7_galls_81 : St mX7_galls 81 (.isub) 1 82 := ⟨by decide +kernel, rfl⟩
theorem dX7_galls_82 : St mX7_galls 82 (.goto 4) 3 85 := ⟨by decide +kernel, rfl⟩
theorem dX7_galls_85 : St mX7_galls 85 (.iconst 0) 1 86 := ⟨by decide +kernel, rfl⟩
theorem dX7_galls_86 : St mX7_galls 86 (.ireturn) 1 87 := ⟨by decide +kernel, rfl⟩
theorem dX7_galls_87 : St mX7_galls 87 (.iconst 2) 1 88 := ⟨by decide +kernel, rfl⟩
theorem dX7_galls_88 : St mX7_galls 88 (.iload 5) 2 90 := ⟨by decide +kernel, rfl⟩
theorem dX7_galls_90 : St mX7_galls 90 (.imul) 1 91 := ⟨by decide +kernel, rfl⟩
theorem dX7_galls_91 : St mX7_galls 91 (.iconst 1) 1 92 := ⟨by decide +kernel, rfl⟩
theorem dX7_galls_92 : St mX7_galls 92 (.iadd) 1 93 := ⟨by decide +kernel, rfl⟩
theorem dX7_galls_93 : St mX7_galls 93 (.ireturn) 1 94 := ⟨by decide +kernel, rfl⟩
theorem dX7_galls_94 : St mX7_galls 94 (.iload 5) 2 96 := ⟨by decide +kernel, rfl⟩
theorem dX7_galls_96 : St mX7_galls 96 (.ireturn) 1 97 := ⟨by decide +kernel, rfl⟩
theorem dX7_grows_0 : St mX7_grows 0 (.aload_n 0) 1 1 := ⟨by decide +kernel, rfl⟩
theorem dX7_grows_1 : St mX7_grows 1 (.iload_n 1) 1 2 := ⟨by decide +kernel, rfl⟩
theorem dX7_grows_2 : St mX7_grows 2 (.iload_n 1) 1 3 := ⟨by decide +kernel, rfl⟩
theorem dX7_grows_3 : St mX7_grows 3 (.iconst 1) 1 4 := ⟨by decide +kernel, rfl⟩
theorem dX7_grows_4 : St mX7_grows 4 (.iadd) 1 5 := ⟨by decide +kernel, rfl⟩
theorem dX7_grows_5 : St mX7_grows 5 (.iload_n 1) 1 6 := ⟨by decide +kernel, rfl⟩
theorem dX7_grows_6 : St mX7_grows 6 (.invokestatic 47) 3 9 := ⟨by decide +kernel, rfl⟩
theorem dX7_grows_9 : St mX7_grows 9 (.aload_n 0) 1 10 := ⟨by decide +kernel, rfl⟩
theorem dX7_grows_10 : St mX7_grows 10 (.iload_n 1) 1 11 := ⟨by decide +kernel, rfl⟩
theorem dX7_grows_11 : St mX7_grows 11 (.iconst 1) 1 12 := ⟨by decide +kernel, rfl⟩
theorem dX7_grows_12 : St mX7_grows 12 (.iadd) 1 13 := ⟨by decide +kernel, rfl⟩
theorem dX7_grows_13 : St mX7_grows 13 (.iload_n 1) 1 14 := ⟨by decide +kernel, rfl⟩
theorem dX7_grows_14 : St mX7_grows 14 (.iload_n 1) 1 15 := ⟨by decide +kernel, rfl⟩
theorem dX7_grows_15 : St mX7_grows 15 (.invokestatic 47) 3 18 := ⟨by decide +kernel, rfl⟩
theorem dX7_grows_18 : St mX7_grows 18 (.iadd) 1 19 := ⟨by decide +kernel, rfl⟩
theorem dX7_grows_19 : St mX7_grows 19 (.aload_n 0) 1 20 := ⟨by decide +kernel, rfl⟩
theorem dX7_grows_20 : St mX7_grows 20 (.iconst 2) 1 21 := ⟨by decide +kernel, rfl⟩
theorem dX7_grows_21 : St mX7_grows 21 (.iaload) 1 22 := ⟨by decide +kernel, rfl⟩
theorem dX7_grows_22 : St mX7_grows 22 (.isub) 1 23 := ⟨by decide +kernel, rfl⟩
theorem dX7_grows_23 : St mX7_grows 23 (.ireturn) 1 24 := ⟨by decide +kernel, rfl⟩
theorem dX7_bound_0 : St mX7_bound 0 (.iload_n 0) 1 1 := ⟨by decide +kernel, rfl⟩
theorem dX7_bound_1 : St mX7_bound 1 (.ifCond .ge 7) 3 4 := ⟨by decide +kernel, rfl⟩
theorem dX7_bound_4 : St mX7_bound 4 (.iconst 0) 1 5 := ⟨by decide +kernel, rfl⟩
theorem dX7_bound_5 : St mX7_bound 5 (.goto 15) 3 8 := ⟨by decide +kernel, rfl⟩
theorem dX7_bound_8 : St mX7_bound 8 (.iload_n 0) 1 9 := ⟨by decide +kernel, rfl⟩
theorem dX7_bound_9 : St mX7_bound 9 (.bipush 99) 2 11 := ⟨by decide +kernel, rfl⟩
theorem dX7_bound_11 : St mX7_bound 11 (.if_icmp .le 8) 3 14 := ⟨by decide +kernel, rfl⟩
theorem dX7_bound_14 : St mX7_bound 14 (.bipush 99) 2 16 := ⟨by decide +kernel, rfl⟩
theorem dX7_bound_16 : St mX7_bound 16 (.goto 4) 3 19 := ⟨by decide +kernel, rfl⟩
theorem dX7_bound_19 : St mX7_bound 19 (.iload_n 0) 1 20 := ⟨by decide +kernel, rfl⟩
theorem dX7_bound_20 : St mX7_bound 20 (.ireturn) 1 21 := ⟨by decide +kernel, rfl⟩
theorem dX7_michaelmas_0 : St mX7_michaelmas 0 (.iconst 0) 1 1 := ⟨by decide +kernel, rfl⟩
theorem dX7_michaelmas_1 : St mX7_michaelmas 1 (.istore_n 1) 1 2 := ⟨by decide +kernel, rfl⟩
theorem dX7_michaelmas_2 : St mX7_michaelmas 2 (.iconst 0) 1 3 := ⟨by decide +kernel, rfl⟩
theorem dX7_michaelmas_3 : St mX7_michaelmas 3 (.istore_n 2) 1 4 := ⟨by decide +kernel, rfl⟩
theorem dX7_michaelmas_4 : St mX7_michaelmas 4 (.iload_n 2) 1 5 := ⟨by decide +kernel, rfl⟩
theorem dX7_michaelmas_5 : St mX7_michaelmas 5 (.aload_n 0) 1 6 := ⟨by decide +kernel, rfl⟩
theorem dX7_michaelmas_6 : St mX7_michaelmas 6 (.iconst 0) 1 7 := ⟨by decide +kernel, rfl⟩
theorem dX7_michaelmas_7 : St mX7_michaelmas 7 (.iaload) 1 8 := ⟨by decide +kernel, rfl⟩
theorem dX7_michaelmas_8 : St mX7_michaelmas 8 (.iconst 1) 1 9 := ⟨by decide +kernel, rfl⟩
theorem dX7_michaelmas_9 : St mX7_michaelmas 9 (.isub) 1 10 := ⟨by decide +kernel, rfl⟩
theorem dX7_michaelmas_10 : St mX7_michaelmas 10 (.if_icmp .ge 91) 3 13 := ⟨by decide +kernel, rfl⟩
theorem dX7_michaelmas_13 : St mX7_michaelmas 13 (.aload_n 0) 1 14 := ⟨by decide +kernel, rfl⟩
theorem dX7_michaelmas_14 : St mX7_michaelmas 14 (.bipush 27) 2 16 := ⟨by decide +kernel, rfl⟩
theorem dX7_michaelmas_16 : St mX7_michaelmas 16 (.iload_n 2) 1 17 := ⟨by decide +kernel, rfl⟩
theorem dX7_michaelmas_17 : St mX7_michaelmas 17 (.iadd) 1 18 := ⟨by decide +kernel, rfl⟩
theorem dX7_michaelmas_18 : St mX7_michaelmas 18 (.iaload) 1 19 := ⟨by decide +kernel, rfl⟩
theorem dX7_michaelmas_19 : St mX7_michaelmas 19 (.iconst 5) 1 20 := ⟨by decide +kernel, rfl⟩
theorem dX7_michaelmas_20 : St mX7_michaelmas 20 (.idiv) 1 21 := ⟨by decide +kernel, rfl⟩
theorem dX7_michaelmas_21 : St mX7_michaelmas 21 (.istore_n 3) 1 22 := ⟨by decide +kernel, rfl⟩
theorem dX7_michaelmas_22 : St mX7_michaelmas 22 (.iload_n 3) 1 23 := ⟨by decide +kernel, rfl⟩
theorem dX7_michaelmas_23 : St mX7_michaelmas 23 (.aload_n 0) 1 24 := ⟨by decide +kernel, rfl⟩
theorem dX7_michaelmas_24 : St mX7_michaelmas 24 (.bipush 22) 2 26 := ⟨by decide +kernel, rfl⟩
theorem dX7_michaelmas_26 : St mX7_michaelmas 26 (.iload_n 2) 1 27 := ⟨by decide +kernel, rfl⟩
theorem dX7_michaelmas_27 : St mX7_michaelmas 27 (.iadd) 1 28 := ⟨by decide +kernel, rfl⟩
theorem dX7_michaelmas_28 : St mX7_michaelmas 28 (.iaload) 1 29 := ⟨by decide +kernel, rfl⟩
theorem dX7_michaelmas_29 : St mX7_michaelmas 29 (.isub) 1 30 := ⟨by decide +kernel, rfl⟩
theorem dX7_michaelmas_30 : St mX7_michaelmas 30 (.istore 4) 2 32 := ⟨by decide +kernel, rfl⟩
theorem dX7_michaelmas_32 : St mX7_michaelmas 32 (.iload 4) 2 34 := ⟨by decide +kernel, rfl⟩
theorem dX7_michaelmas_34 : St mX7_michaelmas 34 (.ifCond .le 10) 3 37 := ⟨by decide +kernel, rfl⟩
theorem dX7_michaelmas_37 : St mX7_michaelmas 37 (.iconst 2) 1 38 := ⟨by decide +kernel, rfl⟩
theorem dX7_michaelmas_38 : St mX7_michaelmas 38 (.iload 4) 2 40 := ⟨by decide +kernel, rfl⟩
theorem dX7_michaelmas_40 : St mX7_michaelmas 40 (.imul) 1 41 := ⟨by decide +kernel, rfl⟩
theorem dX7_michaelmas_41 : St mX7_michaelmas 41 (.goto 6) 3 44 := ⟨by decide +kernel, rfl⟩
theorem dX7_michaelmas_44 : St mX7_michaelmas 44 (.iload 4) 2 46 := ⟨by decide +kernel, rfl⟩
theorem dX7_michaelmas_46 : St mX7_michaelmas 46 (.ineg) 1 47 := ⟨by decide +kernel, rfl⟩
theorem dX7_michaelmas_47 : St mX7_michaelmas 47 (.istore 5) 2 49 := ⟨by decide +kernel, rfl⟩
theorem dX7_michaelmas_49 : St mX7_michaelmas 49 (.aload_n 0) 1 50 := ⟨by decide +kernel, rfl⟩
theorem dX7_michaelmas_50 : St mX7_michaelmas 50 (.bipush 16) 2 52 := ⟨by decide +kernel, rfl⟩
theorem dX7_michaelmas_52 : St mX7_michaelmas 52 (.iload_n 2) 1 53 := ⟨by decide +kernel, rfl⟩
theorem dX7_michaelmas_53 : St mX7_michaelmas 53 (.iadd) 1 54 := ⟨by decide +kernel, rfl⟩
theorem dX7_michaelmas_54 : St mX7_michaelmas 54 (.dup2) 1 55 := ⟨by decide +kernel, rfl⟩
theorem dX7_michaelmas_55 : St mX7_michaelmas 55 (.iaload) 1 56 := ⟨by decide +kernel, rfl⟩
theorem dX7_michaelmas_56 : St mX7_michaelmas 56 (.iload 5) 2 58 := ⟨by decide +kernel, rfl⟩
theorem dX7_michaelmas_58 : St mX7_michaelmas 58 (.iadd) 1 59 := ⟨by decide +kernel, rfl⟩
theorem dX7_michaelmas_59 : St mX7_michaelmas 59 (.iastore) 1 60 := ⟨by decide +kernel, rfl⟩
theorem dX7_michaelmas_60 : St mX7_michaelmas 60 (.aload_n 0) 1 61 := ⟨by decide +kernel, rfl⟩
theorem dX7_michaelmas_61 : St mX7_michaelmas 61 (.bipush 16) 2 63 := ⟨by decide +kernel, rfl⟩
theorem dX7_michaelmas_63 : St mX7_michaelmas 63 (.iload_n 2) 1 64 := ⟨by decide +kernel, rfl⟩
theorem dX7_michaelmas_64 : St mX7_michaelmas 64 (.iadd) 1 65 := ⟨by decide +kernel, rfl⟩
theorem dX7_michaelmas_65 : St mX7_michaelmas 65 (.iconst 1) 1 66 := ⟨by decide +kernel, rfl⟩
theorem dX7_michaelmas_66 : St mX7_michaelmas 66 (.iadd) 1 67 := ⟨by decide +kernel, rfl⟩
theorem dX7_michaelmas_67 : St mX7_michaelmas 67 (.dup2) 1 68 := ⟨by decide +kernel, rfl⟩
theorem dX7_michaelmas_68 : St mX7_michaelmas 68 (.iaload) 1 69 := ⟨by decide +kernel, rfl⟩
theorem dX7_michaelmas_69 : St mX7_michaelmas 69 (.iload 5) 2 71 := ⟨by decide +kernel, rfl⟩
theorem dX7_michaelmas_71 : St mX7_michaelmas 71 (.iadd) 1 72 := ⟨by decide +kernel, rfl⟩
theorem dX7_michaelmas_72 : St mX7_michaelmas 72 (.iastore) 1 73 := ⟨by decide +kernel, rfl⟩
theorem dX7_michaelmas_73 : St mX7_michaelmas 73 (.aload_n 0) 1 74 := ⟨by decide +kernel, rfl⟩
theorem dX7_michaelmas_74 : St mX7_michaelmas 74 (.bipush 22) 2 76 := ⟨by decide +kernel, rfl⟩
theorem dX7_michaelmas_76 : St mX7_michaelmas 76 (.iload_n 2) 1 77 := ⟨by decide +kernel, rfl⟩
theorem dX7_michaelmas_77 : St mX7_michaelmas 77 (.iadd) 1 78 := ⟨by decide +kernel, rfl⟩
theorem dX7_michaelmas_78 : St mX7_michaelmas 78 (.iload_n 3) 1 79 := ⟨by decide +kernel, rfl⟩
theorem dX7_michaelmas_79 : St mX7_michaelmas 79 (.iastore) 1 80 := ⟨by decide +kernel, rfl⟩
theorem dX7_michaelmas_80 : St mX7_michaelmas 80 (.iload_n 1) 1 81 := ⟨by decide +kernel, rfl⟩
theorem dX7_michaelmas_81 : St mX7_michaelmas 81 (.ifCond .ne 8) 3 84 := ⟨by decide +kernel, rfl⟩
theorem dX7_michaelmas_84 : St mX7_michaelmas 84 (.iload 4) 2 86 := ⟨by decide +kernel, rfl⟩
theorem dX7_michaelmas_86 : St mX7_michaelmas 86 (.ifCond .eq 7) 3 89 := ⟨by decide +kernel, rfl⟩
theorem dX7_michaelmas_89 : St mX7_michaelmas 89 (.iconst 1) 1 90 := ⟨by decide +kernel, rfl⟩
theorem dX7_michaelmas_90 : St mX7_michaelmas 90 (.goto 4) 3 93 := ⟨by decide +kernel, rfl⟩
theorem dX7_michaelmas_93 : St mX7_michaelmas 93 (.iconst 0) 1 94 := ⟨by decide +kernel, rfl⟩
theorem dX7_michaelmas_94 : St mX7_michaelmas 94 (.istore_n 1) 1 95 := ⟨by decide +kernel, rfl⟩
theorem dX7_michaelmas_95 : St mX7_michaelmas 95 (.iinc 2 1) 3 98 := ⟨by decide +kernel, rfl⟩
theorem dX7_michaelmas_98 : St mX7_michaelmas 98 (.goto (-94)) 3 101 := ⟨by decide +kernel, rfl⟩
theorem dX7_michaelmas_101 : St mX7_michaelmas 101 (.iload_n 1) 1 102 := ⟨by decide +kernel, rfl⟩
theorem dX7_michaelmas_102 : St mX7_michaelmas 102 (.ireturn) 1 103 := ⟨by decide +kernel, rfl⟩
theorem dX7_goes_0 : St mX7_goes 0 (.iconst 0) 1 1 := ⟨by decide +kernel, rfl⟩
theorem dX7_goes_1 : St mX7_goes 1 (.istore_n 1) 1 2 := ⟨by decide +kernel, rfl⟩
theorem dX7_goes_2 : St mX7_goes 2 (.iload_n 1) 1 3 := ⟨by decide +kernel, rfl⟩
theorem dX7_goes_3 : St mX7_goes 3 (.aload_n 0) 1 4 := ⟨by decide +kernel, rfl⟩
theorem dX7_goes_4 : St mX7_goes 4 (.iconst 0) 1 5 := ⟨by decide +kernel, rfl⟩
theorem dX7_goes_5 : St mX7_goes 5 (.iaload) 1 6 := ⟨by decide +kernel, rfl⟩
theorem dX7_goes_6 : St mX7_goes 6 (.iconst 1) 1 7 := ⟨by decide +kernel, rfl⟩
theorem dX7_goes_7 : St mX7_goes 7 (.isub) 1 8 := ⟨by decide +kernel, rfl⟩
theorem dX7_goes_8 : St mX7_goes 8 (.if_icmp .ge 30) 3 11 := ⟨by decide +kernel, rfl⟩
theorem dX7_goes_11 : St mX7_goes 11 (.aload_n 0) 1 12 := ⟨by decide +kernel, rfl⟩
theorem dX7_goes_12 : St mX7_goes 12 (.bipush 27) 2 14 := ⟨by decide +kernel, rfl⟩
theorem dX7_goes_14 : St mX7_goes 14 (.iload_n 1) 1 15 := ⟨by decide +kernel, rfl⟩
theorem dX7_goes_15 : St mX7_goes 15 (.iadd) 1 16 := ⟨by decide +kernel, rfl⟩
theorem dX7_goes_16 : St mX7_goes 16 (.aload_n 0) 1 17 := ⟨by decide +kernel, rfl⟩
theorem dX7_goes_17 : St mX7_goes 17 (.bipush 27) 2 19 := ⟨by decide +kernel, rfl⟩
theorem dX7_goes_19 : St mX7_goes 19 (.iload_n 1) 1 20 := ⟨by decide +kernel, rfl⟩
theorem dX7_goes_20 : St mX7_goes 20 (.iadd) 1 21 := ⟨by decide +kernel, rfl⟩
theorem dX7_goes_21 : St mX7_goes 21 (.iaload) 1 22 := ⟨by decide +kernel, rfl⟩
theorem dX7_goes_22 : St mX7_goes 22 (.aload_n 0) 1 23 := ⟨by decide +kernel, rfl⟩
theorem dX7_goes_23 : St mX7_goes 23 (.iload_n 1) 1 24 := ⟨by decide +kernel, rfl⟩
theorem dX7_goes_24 : St mX7_goes 24 (.invokestatic 51) 3 27 := ⟨by decide +kernel, rfl⟩
theorem dX7_goes_27 : St mX7_goes 27 (.iadd) 1 28 := ⟨by decide +kernel, rfl⟩
theorem dX7_goes_28 : St mX7_goes 28 (.invokestatic 55) 3 31 := ⟨by decide +kernel, rfl⟩
theorem dX7_goes_31 : St mX7_goes 31 (.iastore) 1 32 := ⟨by decide +kernel, rfl⟩
theorem dX7_goes_32 : St mX7_goes 32 (.iinc 1 1) 3 35 := ⟨by decide +kernel, rfl⟩
theorem dX7_goes_35 : St mX7_goes 35 (.goto (-33)) 3 38 := ⟨by decide +kernel, rfl⟩
theorem dX7_goes_38 : St mX7_goes 38 (.aload_n 0) 1 39 := ⟨by decide +kernel, rfl⟩
theorem dX7_goes_39 : St mX7_goes 39 (.iconst 3) 1 40 := ⟨by decide +kernel, rfl⟩
theorem dX7_goes_40 : St mX7_goes 40 (.dup2) 1 41 := ⟨by decide +kernel, rfl⟩
theorem dX7_goes_41 : St mX7_goes 41 (.iaload) 1 42 := ⟨by decide +kernel, rfl⟩
theorem dX7_goes_42 : St mX7_goes 42 (.iconst 1) 1 43 := ⟨by decide +kernel, rfl⟩
theorem dX7_goes_43 : St mX7_goes 43 (.iadd) 1 44 := ⟨by decide +kernel, rfl⟩
theorem dX7_goes_44 : St mX7_goes 44 (.iastore) 1 45 := ⟨by decide +kernel, rfl⟩
theorem dX7_goes_45 : St mX7_goes 45 (.aload_n 0) 1 46 := ⟨by decide +kernel, rfl⟩
theorem dX7_goes_46 : St mX7_goes 46 (.iconst 3) 1 47 := ⟨by decide +kernel, rfl⟩
theorem dX7_goes_47 : St mX7_goes 47 (.iaload) 1 48 := ⟨by decide +kernel, rfl⟩
theorem dX7_goes_48 : St mX7_goes 48 (.aload_n 0) 1 49 := ⟨by decide +kernel, rfl⟩
theorem dX7_goes_49 : St mX7_goes 49 (.iconst 1) 1 50 := ⟨by decide +kernel, rfl⟩
theorem dX7_goes_50 : St mX7_goes 50 (.iaload) 1 51 := ⟨by decide +kernel, rfl⟩
theorem dX7_goes_51 : St mX7_goes 51 (.irem) 1 52 := ⟨by decide +kernel, rfl⟩
theorem dX7_goes_52 : St mX7_goes 52 (.ifCond .ne 14) 3 55 := ⟨by decide +kernel, rfl⟩
theorem dX7_goes_55 : St mX7_goes 55 (.aload_n 0) 1 56 := ⟨by decide +kernel, rfl⟩
theorem dX7_goes_56 : St mX7_goes 56 (.invokestatic 59) 3 59 := ⟨by decide +kernel, rfl⟩
theorem dX7_goes_59 : St mX7_goes 59 (.ifCond .eq 7) 3 62 := ⟨by decide +kernel, rfl⟩
theorem dX7_goes_62 : St mX7_goes 62 (.iconst 1) 1 63 := ⟨by decide +kernel, rfl⟩
theorem dX7_goes_63 : St mX7_goes 63 (.goto 4) 3 66 := ⟨by decide +kernel, rfl⟩
theorem dX7_goes_66 : St mX7_goes 66 (.iconst 0) 1 67 := ⟨by decide +kernel, rfl⟩
theorem dX7_goes_67 : St mX7_goes 67 (.ireturn) 1 68 := ⟨by decide +kernel, rfl⟩
theorem dX7_sumOf_0 : St mX7_sumOf 0 (.iconst 0) 1 1 := ⟨by decide +kernel, rfl⟩
theorem dX7_sumOf_1 : St mX7_sumOf 1 (.istore_n 3) 1 2 := ⟨by decide +kernel, rfl⟩
theorem dX7_sumOf_2 : St mX7_sumOf 2 (.iconst 0) 1 3 := ⟨by decide +kernel, rfl⟩
theorem dX7_sumOf_3 : St mX7_sumOf 3 (.istore 4) 2 5 := ⟨by decide +kernel, rfl⟩
theorem dX7_sumOf_5 : St mX7_sumOf 5 (.iload 4) 2 7 := ⟨by decide +kernel, rfl⟩
theorem dX7_sumOf_7 : St mX7_sumOf 7 (.iload_n 2) 1 8 := ⟨by decide +kernel, rfl⟩
theorem dX7_sumOf_8 : St mX7_sumOf 8 (.if_icmp .ge 18) 3 11 := ⟨by decide +kernel, rfl⟩
theorem dX7_sumOf_11 : St mX7_sumOf 11 (.iload_n 3) 1 12 := ⟨by decide +kernel, rfl⟩
theorem dX7_sumOf_12 : St mX7_sumOf 12 (.aload_n 0) 1 13 := ⟨by decide +kernel, rfl⟩
theorem dX7_sumOf_13 : St mX7_sumOf 13 (.iload_n 1) 1 14 := ⟨by decide +kernel, rfl⟩
theorem dX7_sumOf_14 : St mX7_sumOf 14 (.iload 4) 2 16 := ⟨by decide +kernel, rfl⟩
theorem dX7_sumOf_16 : St mX7_sumOf 16 (.iadd) 1 17 := ⟨by decide +kernel, rfl⟩
theorem dX7_sumOf_17 : St mX7_sumOf 17 (.iaload) 1 18 := ⟨by decide +kernel, rfl⟩
theorem dX7_sumOf_18 : St mX7_sumOf 18 (.iadd) 1 19 := ⟨by decide +kernel, rfl⟩
theorem dX7_sumOf_19 : St mX7_sumOf 19 (.istore_n 3) 1 20 := ⟨by decide +kernel, rfl⟩
theorem dX7_sumOf_20 : St mX7_sumOf 20 (.iinc 4 1) 3 23 := ⟨by decide +kernel, rfl⟩
theorem dX7_sumOf_23 : St mX7_sumOf 23 (.goto (-18)) 3 26 := ⟨by decide +kernel, rfl⟩
theorem dX7_sumOf_26 : St mX7_sumOf 26 (.iload_n 3) 1 27 := ⟨by decide +kernel, rfl⟩
theorem dX7_sumOf_27 : St mX7_sumOf 27 (.ireturn) 1 28 := ⟨by decide +kernel, rfl⟩
theorem dX7_coursesOf_0 : St mX7_coursesOf 0 (.aload_n 0) 1 1 := ⟨by decide +kernel, rfl⟩
theorem dX7_coursesOf_1 : St mX7_coursesOf 1 (.bipush 22) 2 3 := ⟨by decide +kernel, rfl⟩
theorem dX7_coursesOf_3 : St mX7_coursesOf 3 (.iconst 5) 1 4 := ⟨by decide +kernel, rfl⟩
theorem dX7_coursesOf_4 : St mX7_coursesOf 4 (.invokestatic 63) 3 7 := ⟨by decide +kernel, rfl⟩
theorem dX7_coursesOf_7 : St mX7_coursesOf 7 (.ireturn) 1 8 := ⟨by decide +kernel, rfl⟩
theorem dX7_until_0 : St mX7_until 0 (.aload_n 0) 1 1 := ⟨by decide +kernel, rfl⟩
theorem dX7_until_1 : St mX7_until 1 (.getfield 7) 3 4 := ⟨by decide +kernel, rfl⟩
theorem dX7_until_4 : St mX7_until 4 (.iconst 1) 1 5 := ⟨by decide +kernel, rfl⟩
theorem dX7_until_5 : St mX7_until 5 (.iaload) 1 6 := ⟨by decide +kernel, rfl⟩
theorem dX7_until_6 : St mX7_until 6 (.aload_n 0) 1 7 := ⟨by decide +kernel, rfl⟩
theorem dX7_until_7 : St mX7_until 7 (.getfield 7) 3 10 := ⟨by decide +kernel, rfl⟩
theorem dX7_until_10 : St mX7_until 10 (.iconst 3) 1 11 := ⟨by decide +kernel, rfl⟩
theorem dX7_until_11 : St mX7_until 11 (.iaload) 1 12 := ⟨by decide +kernel, rfl⟩
theorem dX7_until_12 : St mX7_until 12 (.aload_n 0) 1 13 := ⟨by decide +kernel, rfl⟩
theorem dX7_until_13 : St mX7_until 13 (.getfield 7) 3 16 := ⟨by decide +kernel, rfl⟩
theorem dX7_until_16 : St mX7_until 16 (.iconst 1) 1 17 := ⟨by decide +kernel, rfl⟩
theorem dX7_until_17 : St mX7_until 17 (.iaload) 1 18 := ⟨by decide +kernel, rfl⟩
theorem dX7_until_18 : St mX7_until 18 (.irem) 1 19 := ⟨by decide +kernel, rfl⟩
theorem dX7_until_19 : St mX7_until 19 (.isub) 1 20 := ⟨by decide +kernel, rfl⟩
theorem dX7_until_20 : St mX7_until 20 (.ireturn) 1 21 := ⟨by decide +kernel, rfl⟩
theorem dX7_waits_0 : St mX7_waits 0 (.aload_n 0) 1 1 := ⟨by decide +kernel, rfl⟩
theorem dX7_waits_1 : St mX7_waits 1 (.getfield 7) 3 4 := ⟨by decide +kernel, rfl⟩
theorem dX7_waits_4 : St mX7_waits 4 (.bipush 32) 2 6 := ⟨by decide +kernel, rfl⟩
theorem dX7_waits_6 : St mX7_waits 6 (.iload_n 1) 1 7 := ⟨by decide +kernel, rfl⟩
theorem dX7_waits_7 : St mX7_waits 7 (.iadd) 1 8 := ⟨by decide +kernel, rfl⟩
theorem dX7_waits_8 : St mX7_waits 8 (.iaload) 1 9 := ⟨by decide +kernel, rfl⟩
theorem dX7_waits_9 : St mX7_waits 9 (.iconst 3) 1 10 := ⟨by decide +kernel, rfl⟩
theorem dX7_waits_10 : St mX7_waits 10 (.iadd) 1 11 := ⟨by decide +kernel, rfl⟩
theorem dX7_waits_11 : St mX7_waits 11 (.aload_n 0) 1 12 := ⟨by decide +kernel, rfl⟩
theorem dX7_waits_12 : St mX7_waits 12 (.getfield 7) 3 15 := ⟨by decide +kernel, rfl⟩
theorem dX7_waits_15 : St mX7_waits 15 (.iconst 3) 1 16 := ⟨by decide +kernel, rfl⟩
theorem dX7_waits_16 : St mX7_waits 16 (.iaload) 1 17 := ⟨by decide +kernel, rfl⟩
theorem dX7_waits_17 : St mX7_waits 17 (.isub) 1 18 := ⟨by decide +kernel, rfl⟩
theorem dX7_waits_18 : St mX7_waits 18 (.istore_n 2) 1 19 := ⟨by decide +kernel, rfl⟩
theorem dX7_waits_19 : St mX7_waits 19 (.aload_n 0) 1 20 := ⟨by decide +kernel, rfl⟩
theorem dX7_waits_20 : St mX7_waits 20 (.getfield 7) 3 23 := ⟨by decide +kernel, rfl⟩
theorem dX7_waits_23 : St mX7_waits 23 (.bipush 32) 2 25 := ⟨by decide +kernel, rfl⟩
theorem dX7_waits_25 : St mX7_waits 25 (.iload_n 1) 1 26 := ⟨by decide +kernel, rfl⟩
theorem dX7_waits_26 : St mX7_waits 26 (.iadd) 1 27 := ⟨by decide +kernel, rfl⟩
theorem dX7_waits_27 : St mX7_waits 27 (.iaload) 1 28 := ⟨by decide +kernel, rfl⟩
theorem dX7_waits_28 : St mX7_waits 28 (.bipush (-99)) 2 30 := ⟨by decide +kernel, rfl⟩
theorem dX7_waits_30 : St mX7_waits 30 (.if_icmp .eq 7) 3 33 := ⟨by decide +kernel, rfl⟩
theorem dX7_waits_33 : St mX7_waits 33 (.iload_n 2) 1 34 := ⟨by decide +kernel, rfl⟩
theorem dX7_waits_34 : St mX7_waits 34 (.ifCond .ge 7) 3 37 := ⟨by decide +kernel, rfl⟩
theorem dX7_waits_37 : St mX7_waits 37 (.iconst 0) 1 38 := ⟨by decide +kernel, rfl⟩
theorem dX7_waits_38 : St mX7_waits 38 (.goto 4) 3 41 := ⟨by decide +kernel, rfl⟩
theorem dX7_waits_41 : St mX7_waits 41 (.iload_n 2) 1 42 := ⟨by decide +kernel, rfl⟩
theorem dX7_waits_42 : St mX7_waits 42 (.ireturn) 1 43 := ⟨by decide +kernel, rfl⟩
theorem dX7_maySorry_0 : St mX7_maySorry 0 (.iconst 0) 1 1 := ⟨by decide +kernel, rfl⟩
theorem dX7_maySorry_1 : St mX7_maySorry 1 (.istore_n 1) 1 2 := ⟨by decide +kernel, rfl⟩
theorem dX7_maySorry_2 : St mX7_maySorry 2 (.iconst 0) 1 3 := ⟨by decide +kernel, rfl⟩
theorem dX7_maySorry_3 : St mX7_maySorry 3 (.istore_n 2) 1 4 := ⟨by decide +kernel, rfl⟩
theorem dX7_maySorry_4 : St mX7_maySorry 4 (.iload_n 2) 1 5 := ⟨by decide +kernel, rfl⟩
theorem dX7_maySorry_5 : St mX7_maySorry 5 (.aload_n 0) 1 6 := ⟨by decide +kernel, rfl⟩
theorem dX7_maySorry_6 : St mX7_maySorry 6 (.getfield 7) 3 9 := ⟨by decide +kernel, rfl⟩
theorem dX7_maySorry_9 : St mX7_maySorry 9 (.iconst 0) 1 10 := ⟨by decide +kernel, rfl⟩
theorem dX7_maySorry_10 : St mX7_maySorry 10 (.iaload) 1 11 := ⟨by decide +kernel, rfl⟩
theorem dX7_maySorry_11 : St mX7_maySorry 11 (.iconst 1) 1 12 := ⟨by decide +kernel, rfl⟩
theorem dX7_maySorry_12 : St mX7_maySorry 12 (.isub) 1 13 := ⟨by decide +kernel, rfl⟩
theorem dX7_maySorry_13 : St mX7_maySorry 13 (.if_icmp .ge 27) 3 16 := ⟨by decide +kernel, rfl⟩
theorem dX7_maySorry_16 : St mX7_maySorry 16 (.iload_n 1) 1 17 := ⟨by decide +kernel, rfl⟩
theorem dX7_maySorry_17 : St mX7_maySorry 17 (.aload_n 0) 1 18 := ⟨by decide +kernel, rfl⟩
theorem dX7_maySorry_18 : St mX7_maySorry 18 (.iload_n 2) 1 19 := ⟨by decide +kernel, rfl⟩
theorem dX7_maySorry_19 : St mX7_maySorry 19 (.invokevirtual 67) 3 22 := ⟨by decide +kernel, rfl⟩
theorem dX7_maySorry_22 : St mX7_maySorry 22 (.ifCond .ne 9) 3 25 := ⟨by decide +kernel, rfl⟩
theorem dX7_maySorry_25 : St mX7_maySorry 25 (.iconst 1) 1 26 := ⟨by decide +kernel, rfl⟩
theorem dX7_maySorry_26 : St mX7_maySorry 26 (.iload_n 2) 1 27 := ⟨by decide +kernel, rfl⟩
theorem dX7_maySorry_27 : St mX7_maySorry 27 (.ishl) 1 28 := ⟨by decide +kernel, rfl⟩
theorem dX7_maySorry_28 : St mX7_maySorry 28 (.goto 4) 3 31 := ⟨by decide +kernel, rfl⟩
theorem dX7_maySorry_31 : St mX7_maySorry 31 (.iconst 0) 1 32 := ⟨by decide +kernel, rfl⟩
theorem dX7_maySorry_32 : St mX7_maySorry 32 (.ior) 1 33 := ⟨by decide +kernel, rfl⟩
theorem dX7_maySorry_33 : St mX7_maySorry 33 (.istore_n 1) 1 34 := ⟨by decide +kernel, rfl⟩
theorem dX7_maySorry_34 : St mX7_maySorry 34 (.iinc 2 1) 3 37 := ⟨by decide +kernel, rfl⟩
theorem dX7_maySorry_37 : St mX7_maySorry 37 (.goto (-33)) 3 40 := ⟨by decide +kernel, rfl⟩
theorem dX7_maySorry_40 : St mX7_maySorry 40 (.iload_n 1) 1 41 := ⟨by decide +kernel, rfl⟩
theorem dX7_maySorry_41 : St mX7_maySorry 41 (.ireturn) 1 42 := ⟨by decide +kernel, rfl⟩
theorem dX7_sees_0 : St mX7_sees 0 (.iconst 0) 1 1 := ⟨by decide +kernel, rfl⟩
theorem dX7_sees_1 : St mX7_sees 1 (.istore_n 2) 1 2 := ⟨by decide +kernel, rfl⟩
theorem dX7_sees_2 : St mX7_sees 2 (.iload_n 1) 1 3 := ⟨by decide +kernel, rfl⟩
theorem dX7_sees_3 : St mX7_sees 3 (.iconst 1) 1 4 := ⟨by decide +kernel, rfl⟩
theorem dX7_sees_4 : St mX7_sees 4 (.iadd) 1 5 := ⟨by decide +kernel, rfl⟩
theorem dX7_sees_5 : St mX7_sees 5 (.istore_n 3) 1 6 := ⟨by decide +kernel, rfl⟩
theorem dX7_sees_6 : St mX7_sees 6 (.iload_n 3) 1 7 := ⟨by decide +kernel, rfl⟩
theorem dX7_sees_7 : St mX7_sees 7 (.aload_n 0) 1 8 := ⟨by decide +kernel, rfl⟩
theorem dX7_sees_8 : St mX7_sees 8 (.getfield 7) 3 11 := ⟨by decide +kernel, rfl⟩
theorem dX7_sees_11 : St mX7_sees 11 (.iconst 0) 1 12 := ⟨by decide +kernel, rfl⟩
theorem dX7_sees_12 : St mX7_sees 12 (.iaload) 1 13 := ⟨by decide +kernel, rfl⟩
theorem dX7_sees_13 : St mX7_sees 13 (.if_icmp .ge 30) 3 16 := ⟨by decide +kernel, rfl⟩
theorem dX7_sees_16 : St mX7_sees 16 (.aload_n 0) 1 17 := ⟨by decide +kernel, rfl⟩
theorem dX7_sees_17 : St mX7_sees 17 (.getfield 7) 3 20 := ⟨by decide +kernel, rfl⟩
theorem dX7_sees_20 : St mX7_sees 20 (.bipush 22) 2 22 := ⟨by decide +kernel, rfl⟩
theorem dX7_sees_22 : St mX7_sees 22 (.iload_n 3) 1 23 := ⟨by decide +kernel, rfl⟩
theorem dX7_sees_23 : St mX7_sees 23 (.iadd) 1 24 := ⟨by decide +kernel, rfl⟩
theorem dX7_sees_24 : St mX7_sees 24 (.iconst 1) 1 25 := ⟨by decide +kernel, rfl⟩
theorem dX7_sees_25 : St mX7_sees 25 (.isub) 1 26 := ⟨by decide +kernel, rfl⟩
theorem dX7_sees_26 : St mX7_sees 26 (.iaload) 1 27 := ⟨by decide +kernel, rfl⟩
theorem dX7_sees_27 : St mX7_sees 27 (.iconst 5) 1 28 := ⟨by decide +kernel, rfl⟩
theorem dX7_sees_28 : St mX7_sees 28 (.if_icmp .ge 15) 3 31 := ⟨by decide +kernel, rfl⟩
theorem dX7_sees_31 : St mX7_sees 31 (.iload_n 2) 1 32 := ⟨by decide +kernel, rfl⟩
theorem dX7_sees_32 : St mX7_sees 32 (.iconst 1) 1 33 := ⟨by decide +kernel, rfl⟩
theorem dX7_sees_33 : St mX7_sees 33 (.iload_n 3) 1 34 := ⟨by decide +kernel, rfl⟩
theorem dX7_sees_34 : St mX7_sees 34 (.ishl) 1 35 := ⟨by decide +kernel, rfl⟩
theorem dX7_sees_35 : St mX7_sees 35 (.ior) 1 36 := ⟨by decide +kernel, rfl⟩
theorem dX7_sees_36 : St mX7_sees 36 (.istore_n 2) 1 37 := ⟨by decide +kernel, rfl⟩
theorem dX7_sees_37 : St mX7_sees 37 (.iinc 3 1) 3 40 := ⟨by decide +kernel, rfl⟩
theorem dX7_sees_40 : St mX7_sees 40 (.goto (-34)) 3 43 := ⟨by decide +kernel, rfl⟩
theorem dX7_sees_43 : St mX7_sees 43 (.iload_n 1) 1 44 := ⟨by decide +kernel, rfl⟩
theorem dX7_sees_44 : St mX7_sees 44 (.iconst 1) 1 45 := ⟨by decide +kernel, rfl⟩
theorem dX7_sees_45 : St mX7_sees 45 (.isub) 1 46 := ⟨by decide +kernel, rfl⟩
theorem dX7_sees_46 : St mX7_sees 46 (.istore_n 3) 1 47 := ⟨by decide +kernel, rfl⟩
theorem dX7_sees_47 : St mX7_sees 47 (.iload_n 3) 1 48 := ⟨by decide +kernel, rfl⟩
theorem dX7_sees_48 : St mX7_sees 48 (.ifCond .lt 28) 3 51 := ⟨by decide +kernel, rfl⟩
theorem dX7_sees_51 : St mX7_sees 51 (.aload_n 0) 1 52 := ⟨by decide +kernel, rfl⟩
theorem dX7_sees_52 : St mX7_sees 52 (.getfield 7) 3 55 := ⟨by decide +kernel, rfl⟩
theorem dX7_sees_55 : St mX7_sees 55 (.bipush 22) 2 57 := ⟨by decide +kernel, rfl⟩
theorem dX7_sees_57 : St mX7_sees 57 (.iload_n 3) 1 58 := ⟨by decide +kernel, rfl⟩
theorem dX7_sees_58 : St mX7_sees 58 (.iadd) 1 59 := ⟨by decide +kernel, rfl⟩
theorem dX7_sees_59 : St mX7_sees 59 (.iaload) 1 60 := ⟨by decide +kernel, rfl⟩
theorem dX7_sees_60 : St mX7_sees 60 (.iconst 5) 1 61 := ⟨by decide +kernel, rfl⟩
theorem dX7_sees_61 : St mX7_sees 61 (.if_icmp .ge 15) 3 64 := ⟨by decide +kernel, rfl⟩
theorem dX7_sees_64 : St mX7_sees 64 (.iload_n 2) 1 65 := ⟨by decide +kernel, rfl⟩
theorem dX7_sees_65 : St mX7_sees 65 (.iconst 1) 1 66 := ⟨by decide +kernel, rfl⟩
theorem dX7_sees_66 : St mX7_sees 66 (.iload_n 3) 1 67 := ⟨by decide +kernel, rfl⟩
theorem dX7_sees_67 : St mX7_sees 67 (.ishl) 1 68 := ⟨by decide +kernel, rfl⟩
theorem dX7_sees_68 : St mX7_sees 68 (.ior) 1 69 := ⟨by decide +kernel, rfl⟩
theorem dX7_sees_69 : St mX7_sees 69 (.istore_n 2) 1 70 := ⟨by decide +kernel, rfl⟩
theorem dX7_sees_70 : St mX7_sees 70 (.iinc 3 (-1)) 3 73 := ⟨by decide +kernel, rfl⟩
theorem dX7_sees_73 : St mX7_sees 73 (.goto (-26)) 3 76 := ⟨by decide +kernel, rfl⟩
theorem dX7_sees_76 : St mX7_sees 76 (.iload_n 2) 1 77 := ⟨by decide +kernel, rfl⟩
theorem dX7_sees_77 : St mX7_sees 77 (.ireturn) 1 78 := ⟨by decide +kernel, rfl⟩
theorem dX7_garden_0 : St mX7_garden 0 (.iload_n 1) 1 1 := ⟨by decide +kernel, rfl⟩
theorem dX7_garden_1 : St mX7_garden 1 (.i2l) 1 2 := ⟨by decide +kernel, rfl⟩
theorem dX7_garden_2 : St mX7_garden 2 (.lconst 0) 1 3 := ⟨by decide +kernel, rfl⟩
theorem dX7_garden_3 : St mX7_garden 3 (.ldc2_w 70) 3 6 := ⟨by decide +kernel, rfl⟩
theorem dX7_garden_6 : St mX7_garden 6 (.invokestatic 43) 3 9 := ⟨by decide +kernel, rfl⟩
theorem dX7_garden_9 : St mX7_garden 9 (.ifCond .eq 15) 3 12 := ⟨by decide +kernel, rfl⟩
theorem dX7_garden_12 : St mX7_garden 12 (.iload_n 2) 1 13 := ⟨by decide +kernel, rfl⟩
theorem dX7_garden_13 : St mX7_garden 13 (.i2l) 1 14 := ⟨by decide +kernel, rfl⟩
theorem dX7_garden_14 : St mX7_garden 14 (.lconst 0) 1 15 := ⟨by decide +kernel, rfl⟩
theorem dX7_garden_15 : St mX7_garden 15 (.ldc2_w 72) 3 18 := ⟨by decide +kernel, rfl⟩
theorem dX7_garden_18 : St mX7_garden 18 (.invokestatic 43) 3 21 := ⟨by decide +kernel, rfl⟩
theorem dX7_garden_21 : St mX7_garden 21 (.ifCond .ne 5) 3 24 := ⟨by decide +kernel, rfl⟩
theorem dX7_garden_24 : St mX7_garden 24 (.iconst (-1)) 1 25 := ⟨by decide +kernel, rfl⟩
theorem dX7_garden_25 : St mX7_garden 25 (.ireturn) 1 26 := ⟨by decide +kernel, rfl⟩
theorem dX7_garden_26 : St mX7_garden 26 (.aload_n 0) 1 27 := ⟨by decide +kernel, rfl⟩
theorem dX7_garden_27 : St mX7_garden 27 (.getfield 7) 3 30 := ⟨by decide +kernel, rfl⟩
theorem dX7_garden_30 : St mX7_garden 30 (.iconst 0) 1 31 := ⟨by decide +kernel, rfl⟩
theorem dX7_garden_31 : St mX7_garden 31 (.iaload) 1 32 := ⟨by decide +kernel, rfl⟩
theorem dX7_garden_32 : St mX7_garden 32 (.istore_n 3) 1 33 := ⟨by decide +kernel, rfl⟩
theorem dX7_garden_33 : St mX7_garden 33 (.iload_n 3) 1 34 := ⟨by decide +kernel, rfl⟩
theorem dX7_garden_34 : St mX7_garden 34 (.bipush 6) 2 36 := ⟨by decide +kernel, rfl⟩
theorem dX7_garden_36 : St mX7_garden 36 (.if_icmp .ne 6) 3 39 := ⟨by decide +kernel, rfl⟩
theorem dX7_garden_39 : St mX7_garden 39 (.bipush (-3)) 2 41 := ⟨by decide +kernel, rfl⟩
theorem dX7_garden_41 : St mX7_garden 41 (.ireturn) 1 42 := ⟨by decide +kernel, rfl⟩
theorem dX7_garden_42 : St mX7_garden 42 (.aload_n 0) 1 43 := ⟨by decide +kernel, rfl⟩
theorem dX7_garden_43 : St mX7_garden 43 (.getfield 7) 3 46 := ⟨by decide +kernel, rfl⟩
theorem dX7_garden_46 : St mX7_garden 46 (.iconst 4) 1 47 := ⟨by decide +kernel, rfl⟩
theorem dX7_garden_47 : St mX7_garden 47 (.iload_n 3) 1 48 := ⟨by decide +kernel, rfl⟩
theorem dX7_garden_48 : St mX7_garden 48 (.iadd) 1 49 := ⟨by decide +kernel, rfl⟩
theorem dX7_garden_49 : St mX7_garden 49 (.iload_n 1) 1 50 := ⟨by decide +kernel, rfl⟩
theorem dX7_garden_50 : St mX7_garden 50 (.iastore) 1 51 := ⟨by decide +kernel, rfl⟩
theorem dX7_garden_51 : St mX7_garden 51 (.aload_n 0) 1 52 := ⟨by decide +kernel, rfl⟩
theorem dX7_garden_52 : St mX7_garden 52 (.getfield 7) 3 55 := ⟨by decide +kernel, rfl⟩
theorem dX7_garden_55 : St mX7_garden 55 (.bipush 10) 2 57 := ⟨by decide +kernel, rfl⟩
theorem dX7_garden_57 : St mX7_garden 57 (.iload_n 3) 1 58 := ⟨by decide +kernel, rfl⟩
theorem dX7_garden_58 : St mX7_garden 58 (.iadd) 1 59 := ⟨by decide +kernel, rfl⟩
theorem dX7_garden_59 : St mX7_garden 59 (.iload_n 2) 1 60 := ⟨by decide +kernel, rfl⟩
theorem dX7_garden_60 : St mX7_garden 60 (.iastore) 1 61 := ⟨by decide +kernel, rfl⟩
theorem dX7_garden_61 : St mX7_garden 61 (.aload_n 0) 1 62 := ⟨by decide +kernel, rfl⟩
theorem dX7_garden_62 : St mX7_garden 62 (.getfield 7) 3 65 := ⟨by decide +kernel, rfl⟩
theorem dX7_garden_65 : St mX7_garden 65 (.iconst 0) 1 66 := ⟨by decide +kernel, rfl⟩
theorem dX7_garden_66 : St mX7_garden 66 (.dup2) 1 67 := ⟨by decide +kernel, rfl⟩
theorem dX7_garden_67 : St mX7_garden 67 (.iaload) 1 68 := ⟨by decide +kernel, rfl⟩
theorem dX7_garden_68 : St mX7_garden 68 (.iconst 1) 1 69 := ⟨by decide +kernel, rfl⟩
theorem dX7_garden_69 : St mX7_garden 69 (.iadd) 1 70 := ⟨by decide +kernel, rfl⟩
theorem dX7_garden_70 : St mX7_garden 70 (.iastore) 1 71 := ⟨by decide +kernel, rfl⟩
theorem dX7_garden_71 : St mX7_garden 71 (.aload_n 0) 1 72 := ⟨by decide +kernel, rfl⟩
theorem dX7_garden_72 : St mX7_garden 72 (.getfield 7) 3 75 := ⟨by decide +kernel, rfl⟩
theorem dX7_garden_75 : St mX7_garden 75 (.bipush 38) 2 77 := ⟨by decide +kernel, rfl⟩
theorem dX7_garden_77 : St mX7_garden 77 (.iconst 0) 1 78 := ⟨by decide +kernel, rfl⟩
theorem dX7_garden_78 : St mX7_garden 78 (.iastore) 1 79 := ⟨by decide +kernel, rfl⟩
theorem dX7_garden_79 : St mX7_garden 79 (.iload_n 3) 1 80 := ⟨by decide +kernel, rfl⟩
theorem dX7_garden_80 : St mX7_garden 80 (.ireturn) 1 81 := ⟨by decide +kernel, rfl⟩
theorem dX7_of_0 : St mX7_of 0 (.aload_n 0) 1 1 := ⟨by decide +kernel, rfl⟩
theorem dX7_of_1 : St mX7_of 1 (.iload_n 1) 1 2 := ⟨by decide +kernel, rfl⟩
theorem dX7_of_2 : St mX7_of 2 (.invokevirtual 74) 3 5 := ⟨by decide +kernel, rfl⟩
theorem dX7_of_5 : St mX7_of 5 (.ifCond .eq 15) 3 8 := ⟨by decide +kernel, rfl⟩
theorem dX7_of_8 : St mX7_of 8 (.iload_n 2) 1 9 := ⟨by decide +kernel, rfl⟩
theorem dX7_of_9 : St mX7_of 9 (.i2l) 1 10 := ⟨by decide +kernel, rfl⟩
theorem dX7_of_10 : St mX7_of 10 (.lconst 0) 1 11 := ⟨by decide +kernel, rfl⟩
theorem dX7_of_11 : St mX7_of 11 (.ldc2_w 78) 3 14 := ⟨by decide +kernel, rfl⟩
theorem dX7_of_14 : St mX7_of 14 (.invokestatic 43) 3 17 := ⟨by decide +kernel, rfl⟩
theorem dX7_of_17 : St mX7_of 17 (.ifCond .ne 5) 3 20 := ⟨by decide +kernel, rfl⟩
theorem dX7_of_20 : St mX7_of 20 (.iconst (-1)) 1 21 := ⟨by decide +kernel, rfl⟩
theorem dX7_of_21 : St mX7_of 21 (.ireturn) 1 22 := ⟨by decide +kernel, rfl⟩
theorem dX7_of_22 : St mX7_of 22 (.iload_n 2) 1 23 := ⟨by decide +kernel, rfl⟩
theorem dX7_of_23 : St mX7_of 23 (.tableswitch 114 0 4 #[33, 42, 52, 62, 85]) 33 56 := ⟨by decide +kernel, rfl⟩
theorem dX7_of_56 : St mX7_of 56 (.aload_n 0) 1 57 := ⟨by decide +kernel, rfl⟩
theorem dX7_of_57 : St mX7_of 57 (.getfield 7) 3 60 := ⟨by decide +kernel, rfl⟩
theorem dX7_of_60 : St mX7_of 60 (.iconst 4) 1 61 := ⟨by decide +kernel, rfl⟩
theorem dX7_of_61 : St mX7_of 61 (.iload_n 1) 1 62 := ⟨by decide +kernel, rfl⟩
theorem dX7_of_62 : St mX7_of 62 (.iadd) 1 63 := ⟨by decide +kernel, rfl⟩
theorem dX7_of_63 : St mX7_of 63 (.iaload) 1 64 := ⟨by decide +kernel, rfl⟩
theorem dX7_of_64 : St mX7_of 64 (.ireturn) 1 65 := ⟨by decide +kernel, rfl⟩
theorem dX7_of_65 : St mX7_of 65 (.aload_n 0) 1 66 := ⟨by decide +kernel, rfl⟩
theorem dX7_of_66 : St mX7_of 66 (.getfield 7) 3 69 := ⟨by decide +kernel, rfl⟩
theorem dX7_of_69 : St mX7_of 69 (.bipush 10) 2 71 := ⟨by decide +kernel, rfl⟩
theorem dX7_of_71 : St mX7_of 71 (.iload_n 1) 1 72 := ⟨by decide +kernel, rfl⟩
theorem dX7_of_72 : St mX7_of 72 (.iadd) 1 73 := ⟨by decide +kernel, rfl⟩
theorem dX7_of_73 : St mX7_of 73 (.iaload) 1 74 := ⟨by decide +kernel, rfl⟩
theorem dX7_of_74 : St mX7_of 74 (.ireturn) 1 75 := ⟨by decide +kernel, rfl⟩
theorem dX7_of_75 : St mX7_of 75 (.aload_n 0) 1 76 := ⟨by decide +kernel, rfl⟩
theorem dX7_of_76 : St mX7_of 76 (.getfield 7) 3 79 := ⟨by decide +kernel, rfl⟩
theorem dX7_of_79 : St mX7_of 79 (.bipush 16) 2 81 := ⟨by decide +kernel, rfl⟩
theorem dX7_of_81 : St mX7_of 81 (.iload_n 1) 1 82 := ⟨by decide +kernel, rfl⟩
theorem dX7_of_82 : St mX7_of 82 (.iadd) 1 83 := ⟨by decide +kernel, rfl⟩
theorem dX7_of_83 : St mX7_of 83 (.iaload) 1 84 := ⟨by decide +kernel, rfl⟩
theorem dX7_of_84 : St mX7_of 84 (.ireturn) 1 85 := ⟨by decide +kernel, rfl⟩
theorem dX7_of_85 : St mX7_of 85 (.iload_n 1) 1 86 := ⟨by decide +kernel, rfl⟩
theorem dX7_of_86 : St mX7_of 86 (.ifCond .ne 7) 3 89 := ⟨by decide +kernel, rfl⟩
theorem dX7_of_89 : St mX7_of 89 (.iconst 0) 1 90 := ⟨by decide +kernel, rfl⟩
theorem dX7_of_90 : St mX7_of 90 (.goto 17) 3 93 := ⟨by decide +kernel, rfl⟩
theorem dX7_of_93 : St mX7_of 93 (.aload_n 0) 1 94 := ⟨by decide +kernel, rfl⟩
theorem dX7_of_94 : St mX7_of 94 (.getfield 7) 3 97 := ⟨by decide +kernel, rfl⟩
theorem dX7_of_97 : St mX7_of 97 (.iload_n 1) 1 98 := ⟨by decide +kernel, rfl⟩
theorem dX7_of_98 : St mX7_of 98 (.iload_n 1) 1 99 := ⟨by decide +kernel, rfl⟩
theorem dX7_of_99 : St mX7_of 99 (.iconst 1) 1 100 := ⟨by decide +kernel, rfl⟩
theorem dX7_of_100 : St mX7_of 100 (.isub) 1 101 := ⟨by decide +kernel, rfl⟩
theorem dX7_of_101 : St mX7_of 101 (.iload_n 1) 1 102 := ⟨by decide +kernel, rfl⟩
theorem dX7_of_102 : St mX7_of 102 (.iconst 1) 1 103 := ⟨by decide +kernel, rfl⟩
theorem dX7_of_103 : St mX7_of 103 (.isub) 1 104 := ⟨by decide +kernel, rfl⟩
theorem dX7_of_104 : St mX7_of 104 (.invokestatic 47) 3 107 := ⟨by decide +kernel, rfl⟩
theorem dX7_of_107 : St mX7_of 107 (.ireturn) 1 108 := ⟨by decide +kernel, rfl⟩
theorem dX7_of_108 : St mX7_of 108 (.iload_n 1) 1 109 := ⟨by decide +kernel, rfl⟩
theorem dX7_of_109 : St mX7_of 109 (.aload_n 0) 1 110 := ⟨by decide +kernel, rfl⟩
theorem dX7_of_110 : St mX7_of 110 (.getfield 7) 3 113 := ⟨by decide +kernel, rfl⟩
theorem dX7_of_113 : St mX7_of 113 (.iconst 0) 1 114 := ⟨by decide +kernel, rfl⟩
theorem dX7_of_114 : St mX7_of 114 (.iaload) 1 115 := ⟨by decide +kernel, rfl⟩
theorem dX7_of_115 : St mX7_of 115 (.iconst 1) 1 116 := ⟨by decide +kernel, rfl⟩
theorem dX7_of_116 : St mX7_of 116 (.isub) 1 117 := ⟨by decide +kernel, rfl⟩
theorem dX7_of_117 : St mX7_of 117 (.if_icmp .ne 7) 3 120 := ⟨by decide +kernel, rfl⟩
theorem dX7_of_120 : St mX7_of 120 (.iconst 0) 1 121 := ⟨by decide +kernel, rfl⟩
theorem dX7_of_121 : St mX7_of 121 (.goto 15) 3 124 := ⟨by decide +kernel, rfl⟩
theorem dX7_of_124 : St mX7_of 124 (.aload_n 0) 1 125 := ⟨by decide +kernel, rfl⟩
theorem dX7_of_125 : St mX7_of 125 (.getfield 7) 3 128 := ⟨by decide +kernel, rfl⟩
theorem dX7_of_128 : St mX7_of 128 (.iload_n 1) 1 129 := ⟨by decide +kernel, rfl⟩
theorem dX7_of_129 : St mX7_of 129 (.iload_n 1) 1 130 := ⟨by decide +kernel, rfl⟩
theorem dX7_of_130 : St mX7_of 130 (.iconst 1) 1 131 := ⟨by decide +kernel, rfl⟩
theorem dX7_of_131 : St mX7_of 131 (.iadd) 1 132 := ⟨by decide +kernel, rfl⟩
theorem dX7_of_132 : St mX7_of 132 (.iload_n 1) 1 133 := ⟨by decide +kernel, rfl⟩
theorem dX7_of_133 : St mX7_of 133 (.invokestatic 47) 3 136 := ⟨by decide +kernel, rfl⟩
theorem dX7_of_136 : St mX7_of 136 (.ireturn) 1 137 := ⟨by decide +kernel, rfl⟩
theorem dX7_of_137 : St mX7_of 137 (.aload_n 0) 1 138 := ⟨by decide +kernel, rfl⟩
theorem dX7_of_138 : St mX7_of 138 (.iload_n 1) 1 139 := ⟨by decide +kernel, rfl⟩
theorem dX7_of_139 : St mX7_of 139 (.invokevirtual 80) 3 142 := ⟨by decide +kernel, rfl⟩
theorem dX7_of_142 : St mX7_of 142 (.ireturn) 1 143 := ⟨by decide +kernel, rfl⟩
theorem dX7_wall_0 : St mX7_wall 0 (.aload_n 0) 1 1 := ⟨by decide +kernel, rfl⟩
theorem dX7_wall_1 : St mX7_wall 1 (.iload_n 1) 1 2 := ⟨by decide +kernel, rfl⟩
theorem dX7_wall_2 : St mX7_wall 2 (.invokevirtual 83) 3 5 := ⟨by decide +kernel, rfl⟩
theorem dX7_wall_5 : St mX7_wall 5 (.ifCond .eq 15) 3 8 := ⟨by decide +kernel, rfl⟩
theorem dX7_wall_8 : St mX7_wall 8 (.iload_n 2) 1 9 := ⟨by decide +kernel, rfl⟩
theorem dX7_wall_9 : St mX7_wall 9 (.i2l) 1 10 := ⟨by decide +kernel, rfl⟩
theorem dX7_wall_10 : St mX7_wall 10 (.lconst 0) 1 11 := ⟨by decide +kernel, rfl⟩
theorem dX7_wall_11 : St mX7_wall 11 (.ldc2_w 86) 3 14 := ⟨by decide +kernel, rfl⟩
theorem dX7_wall_14 : St mX7_wall 14 (.invokestatic 43) 3 17 := ⟨by decide +kernel, rfl⟩
theorem dX7_wall_17 : St mX7_wall 17 (.ifCond .ne 5) 3 20 := ⟨by decide +kernel, rfl⟩
theorem dX7_wall_20 : St mX7_wall 20 (.iconst (-1)) 1 21 := ⟨by decide +kernel, rfl⟩
theorem dX7_wall_21 : St mX7_wall 21 (.ireturn) 1 22 := ⟨by decide +kernel, rfl⟩
theorem dX7_wall_22 : St mX7_wall 22 (.iload_n 2) 1 23 := ⟨by decide +kernel, rfl⟩
theorem dX7_wall_23 : St mX7_wall 23 (.tableswitch 57 0 2 #[25, 35, 45]) 25 48 := ⟨by decide +kernel, rfl⟩
theorem dX7_wall_48 : St mX7_wall 48 (.aload_n 0) 1 49 := ⟨by decide +kernel, rfl⟩
theorem dX7_wall_49 : St mX7_wall 49 (.getfield 7) 3 52 := ⟨by decide +kernel, rfl⟩
theorem dX7_wall_52 : St mX7_wall 52 (.bipush 22) 2 54 := ⟨by decide +kernel, rfl⟩
theorem dX7_wall_54 : St mX7_wall 54 (.iload_n 1) 1 55 := ⟨by decide +kernel, rfl⟩
theorem dX7_wall_55 : St mX7_wall 55 (.iadd) 1 56 := ⟨by decide +kernel, rfl⟩
theorem dX7_wall_56 : St mX7_wall 56 (.iaload) 1 57 := ⟨by decide +kernel, rfl⟩
theorem dX7_wall_57 : St mX7_wall 57 (.ireturn) 1 58 := ⟨by decide +kernel, rfl⟩
theorem dX7_wall_58 : St mX7_wall 58 (.aload_n 0) 1 59 := ⟨by decide +kernel, rfl⟩
theorem dX7_wall_59 : St mX7_wall 59 (.getfield 7) 3 62 := ⟨by decide +kernel, rfl⟩
theorem dX7_wall_62 : St mX7_wall 62 (.bipush 27) 2 64 := ⟨by decide +kernel, rfl⟩
theorem dX7_wall_64 : St mX7_wall 64 (.iload_n 1) 1 65 := ⟨by decide +kernel, rfl⟩
theorem dX7_wall_65 : St mX7_wall 65 (.iadd) 1 66 := ⟨by decide +kernel, rfl⟩
theorem dX7_wall_66 : St mX7_wall 66 (.iaload) 1 67 := ⟨by decide +kernel, rfl⟩
theorem dX7_wall_67 : St mX7_wall 67 (.ireturn) 1 68 := ⟨by decide +kernel, rfl⟩
theorem dX7_wall_68 : St mX7_wall 68 (.aload_n 0) 1 69 := ⟨by decide +kernel, rfl⟩
theorem dX7_wall_69 : St mX7_wall 69 (.getfield 7) 3 72 := ⟨by decide +kernel, rfl⟩
theorem dX7_wall_72 : St mX7_wall 72 (.iload_n 1) 1 73 := ⟨by decide +kernel, rfl⟩
theorem dX7_wall_73 : St mX7_wall 73 (.invokestatic 51) 3 76 := ⟨by decide +kernel, rfl⟩
theorem dX7_wall_76 : St mX7_wall 76 (.bipush 100) 2 78 := ⟨by decide +kernel, rfl⟩
theorem dX7_wall_78 : St mX7_wall 78 (.iadd) 1 79 := ⟨by decide +kernel, rfl⟩
theorem dX7_wall_79 : St mX7_wall 79 (.ireturn) 1 80 := ⟨by decide +kernel, rfl⟩
theorem dX7_wall_80 : St mX7_wall 80 (.aload_n 0) 1 81 := ⟨by decide +kernel, rfl⟩
theorem dX7_wall_81 : St mX7_wall 81 (.iload_n 1) 1 82 := ⟨by decide +kernel, rfl⟩
theorem dX7_wall_82 : St mX7_wall 82 (.invokevirtual 67) 3 85 := ⟨by decide +kernel, rfl⟩
theorem dX7_wall_85 : St mX7_wall 85 (.ireturn) 1 86 := ⟨by decide +kernel, rfl⟩
theorem dX7_becomes_0 : St mX7_becomes 0 (.aload_n 0) 1 1 := ⟨by decide +kernel, rfl⟩
theorem dX7_becomes_1 : St mX7_becomes 1 (.getfield 7) 3 4 := ⟨by decide +kernel, rfl⟩
theorem dX7_becomes_4 : St mX7_becomes 4 (.iload_n 1) 1 5 := ⟨by decide +kernel, rfl⟩
theorem dX7_becomes_5 : St mX7_becomes 5 (.iaload) 1 6 := ⟨by decide +kernel, rfl⟩
theorem dX7_becomes_6 : St mX7_becomes 6 (.istore_n 3) 1 7 := ⟨by decide +kernel, rfl⟩
theorem dX7_becomes_7 : St mX7_becomes 7 (.aload_n 0) 1 8 := ⟨by decide +kernel, rfl⟩
theorem dX7_becomes_8 : St mX7_becomes 8 (.getfield 7) 3 11 := ⟨by decide +kernel, rfl⟩
theorem dX7_becomes_11 : St mX7_becomes 11 (.iload_n 1) 1 12 := ⟨by decide +kernel, rfl⟩
theorem dX7_becomes_12 : St mX7_becomes 12 (.iload_n 2) 1 13 := ⟨by decide +kernel, rfl⟩
theorem dX7_becomes_13 : St mX7_becomes 13 (.iastore) 1 14 := ⟨by decide +kernel, rfl⟩
theorem dX7_becomes_14 : St mX7_becomes 14 (.iload_n 3) 1 15 := ⟨by decide +kernel, rfl⟩
theorem dX7_becomes_15 : St mX7_becomes 15 (.ireturn) 1 16 := ⟨by decide +kernel, rfl⟩
theorem dX7_noise_0 : St mX7_noise 0 (.aload_n 0) 1 1 := ⟨by decide +kernel, rfl⟩
theorem dX7_noise_1 : St mX7_noise 1 (.iload_n 1) 1 2 := ⟨by decide +kernel, rfl⟩
theorem dX7_noise_2 : St mX7_noise 2 (.invokevirtual 74) 3 5 := ⟨by decide +kernel, rfl⟩
theorem dX7_noise_5 : St mX7_noise 5 (.ifCond .eq 27) 3 8 := ⟨by decide +kernel, rfl⟩
theorem dX7_noise_8 : St mX7_noise 8 (.iload_n 2) 1 9 := ⟨by decide +kernel, rfl⟩
theorem dX7_noise_9 : St mX7_noise 9 (.i2l) 1 10 := ⟨by decide +kernel, rfl⟩
theorem dX7_noise_10 : St mX7_noise 10 (.lconst 0) 1 11 := ⟨by decide +kernel, rfl⟩
theorem dX7_noise_11 : St mX7_noise 11 (.ldc2_w 72) 3 14 := ⟨by decide +kernel, rfl⟩
theorem dX7_noise_14 : St mX7_noise 14 (.invokestatic 43) 3 17 := ⟨by decide +kernel, rfl⟩
theorem dX7_noise_17 : St mX7_noise 17 (.ifCond .eq 15) 3 20 := ⟨by decide +kernel, rfl⟩
theorem dX7_noise_20 : St mX7_noise 20 (.aload_n 0) 1 21 := ⟨by decide +kernel, rfl⟩
theorem dX7_noise_21 : St mX7_noise 21 (.bipush 10) 2 23 := ⟨by decide +kernel, rfl⟩
theorem dX7_noise_23 : St mX7_noise 23 (.iload_n 1) 1 24 := ⟨by decide +kernel, rfl⟩
theorem dX7_noise_24 : St mX7_noise 24 (.iadd) 1 25 := ⟨by decide +kernel, rfl⟩
theorem dX7_noise_25 : St mX7_noise 25 (.iload_n 2) 1 26 := ⟨by decide +kernel, rfl⟩
theorem dX7_noise_26 : St mX7_noise 26 (.invokevirtual 88) 3 29 := ⟨by decide +kernel, rfl⟩
theorem dX7_noise_29 : St mX7_noise 29 (.goto 4) 3 32 := ⟨by decide +kernel, rfl⟩
theorem dX7_noise_32 : St mX7_noise 32 (.iconst (-1)) 1 33 := ⟨by decide +kernel, rfl⟩
theorem dX7_noise_33 : St mX7_noise 33 (.ireturn) 1 34 := ⟨by decide +kernel, rfl⟩
theorem dX7_rule_0 : St mX7_rule 0 (.iload_n 1) 1 1 := ⟨by decide +kernel, rfl⟩
theorem dX7_rule_1 : St mX7_rule 1 (.ifCond .ne 17) 3 4 := ⟨by decide +kernel, rfl⟩
theorem dX7_rule_4 : St mX7_rule 4 (.iload_n 2) 1 5 := ⟨by decide +kernel, rfl⟩
theorem dX7_rule_5 : St mX7_rule 5 (.i2l) 1 6 := ⟨by decide +kernel, rfl⟩
theorem dX7_rule_6 : St mX7_rule 6 (.ldc2_w 92) 3 9 := ⟨by decide +kernel, rfl⟩
theorem dX7_rule_9 : St mX7_rule 9 (.ldc2_w 94) 3 12 := ⟨by decide +kernel, rfl⟩
theorem dX7_rule_12 : St mX7_rule 12 (.invokestatic 43) 3 15 := ⟨by decide +kernel, rfl⟩
theorem dX7_rule_15 : St mX7_rule 15 (.ifCond .ne 20) 3 18 := ⟨by decide +kernel, rfl⟩
theorem dX7_rule_18 : St mX7_rule 18 (.iload_n 1) 1 19 := ⟨by decide +kernel, rfl⟩
theorem dX7_rule_19 : St mX7_rule 19 (.iconst 1) 1 20 := ⟨by decide +kernel, rfl⟩
theorem dX7_rule_20 : St mX7_rule 20 (.if_icmp .ne 19) 3 23 := ⟨by decide +kernel, rfl⟩
theorem dX7_rule_23 : St mX7_rule 23 (.iload_n 2) 1 24 := ⟨by decide +kernel, rfl⟩
theorem dX7_rule_24 : St mX7_rule 24 (.i2l) 1 25 := ⟨by decide +kernel, rfl⟩
theorem dX7_rule_25 : St mX7_rule 25 (.lconst 0) 1 26 := ⟨by decide +kernel, rfl⟩
theorem dX7_rule_26 : St mX7_rule 26 (.ldc2_w 72) 3 29 := ⟨by decide +kernel, rfl⟩
theorem dX7_rule_29 : St mX7_rule 29 (.invokestatic 43) 3 32 := ⟨by decide +kernel, rfl⟩
theorem dX7_rule_32 : St mX7_rule 32 (.ifCond .eq 7) 3 35 := ⟨by decide +kernel, rfl⟩
theorem dX7_rule_35 : St mX7_rule 35 (.iconst 1) 1 36 := ⟨by decide +kernel, rfl⟩
theorem dX7_rule_36 : St mX7_rule 36 (.goto 4) 3 39 := ⟨by decide +kernel, rfl⟩
theorem dX7_rule_39 : St mX7_rule 39 (.iconst 0) 1 40 := ⟨by decide +kernel, rfl⟩
theorem dX7_rule_40 : St mX7_rule 40 (.istore_n 3) 1 41 := ⟨by decide +kernel, rfl⟩
theorem dX7_rule_41 : St mX7_rule 41 (.iload_n 3) 1 42 := ⟨by decide +kernel, rfl⟩
theorem dX7_rule_42 : St mX7_rule 42 (.ifCond .eq 14) 3 45 := ⟨by decide +kernel, rfl⟩
theorem dX7_rule_45 : St mX7_rule 45 (.aload_n 0) 1 46 := ⟨by decide +kernel, rfl⟩
theorem dX7_rule_46 : St mX7_rule 46 (.iconst 1) 1 47 := ⟨by decide +kernel, rfl⟩
theorem dX7_rule_47 : St mX7_rule 47 (.iload_n 1) 1 48 := ⟨by decide +kernel, rfl⟩
theorem dX7_rule_48 : St mX7_rule 48 (.iadd) 1 49 := ⟨by decide +kernel, rfl⟩
theorem dX7_rule_49 : St mX7_rule 49 (.iload_n 2) 1 50 := ⟨by decide +kernel, rfl⟩
theorem dX7_rule_50 : St mX7_rule 50 (.invokevirtual 88) 3 53 := ⟨by decide +kernel, rfl⟩
theorem dX7_rule_53 : St mX7_rule 53 (.goto 4) 3 56 := ⟨by decide +kernel, rfl⟩
theorem dX7_rule_56 : St mX7_rule 56 (.iconst (-1)) 1 57 := ⟨by decide +kernel, rfl⟩
theorem dX7_rule_57 : St mX7_rule 57 (.ireturn) 1 58 := ⟨by decide +kernel, rfl⟩
theorem dX7_type_0 : St mX7_type 0 (.iload_n 1) 1 1 := ⟨by decide +kernel, rfl⟩
theorem dX7_type_1 : St mX7_type 1 (.i2l) 1 2 := ⟨by decide +kernel, rfl⟩
theorem dX7_type_2 : St mX7_type 2 (.ldc2_w 39) 3 5 := ⟨by decide +kernel, rfl⟩
theorem dX7_type_5 : St mX7_type 5 (.ldc2_w 96) 3 8 := ⟨by decide +kernel, rfl⟩
theorem dX7_type_8 : St mX7_type 8 (.invokestatic 43) 3 11 := ⟨by decide +kernel, rfl⟩
theorem dX7_type_11 : St mX7_type 11 (.ifCond .ne 5) 3 14 := ⟨by decide +kernel, rfl⟩
theorem dX7_type_14 : St mX7_type 14 (.iconst (-1)) 1 15 := ⟨by decide +kernel, rfl⟩
theorem dX7_type_15 : St mX7_type 15 (.ireturn) 1 16 := ⟨by decide +kernel, rfl⟩
theorem dX7_type_16 : St mX7_type 16 (.aload_n 0) 1 17 := ⟨by decide +kernel, rfl⟩
theorem dX7_type_17 : St mX7_type 17 (.getfield 98) 3 20 := ⟨by decide +kernel, rfl⟩
theorem dX7_type_20 : St mX7_type 20 (.bipush 60) 2 22 := ⟨by decide +kernel, rfl⟩
theorem dX7_type_22 : St mX7_type 22 (.if_icmp .ne 6) 3 25 := ⟨by decide +kernel, rfl⟩
theorem dX7_type_25 : St mX7_type 25 (.bipush (-3)) 2 27 := ⟨by decide +kernel, rfl⟩
theorem dX7_type_27 : St mX7_type 27 (.ireturn) 1 28 := ⟨by decide +kernel, rfl⟩
theorem dX7_type_28 : St mX7_type 28 (.aload_n 0) 1 29 := ⟨by decide +kernel, rfl⟩
theorem dX7_type_29 : St mX7_type 29 (.getfield 22) 3 32 := ⟨by decide +kernel, rfl⟩
theorem dX7_type_32 : St mX7_type 32 (.aload_n 0) 1 33 := ⟨by decide +kernel, rfl⟩
theorem dX7_type_33 : St mX7_type 33 (.getfield 98) 3 36 := ⟨by decide +kernel, rfl⟩
theorem dX7_type_36 : St mX7_type 36 (.iload_n 1) 1 37 := ⟨by decide +kernel, rfl⟩
theorem dX7_type_37 : St mX7_type 37 (.iastore) 1 38 := ⟨by decide +kernel, rfl⟩
theorem dX7_type_38 : St mX7_type 38 (.aload_n 0) 1 39 := ⟨by decide +kernel, rfl⟩
theorem dX7_type_39 : St mX7_type 39 (.dup) 1 40 := ⟨by decide +kernel, rfl⟩
theorem dX7_type_40 : St mX7_type 40 (.getfield 98) 3 43 := ⟨by decide +kernel, rfl⟩
theorem dX7_type_43 : St mX7_type 43 (.iconst 1) 1 44 := ⟨by decide +kernel, rfl⟩
theorem dX7_type_44 : St mX7_type 44 (.iadd) 1 45 := ⟨by decide +kernel, rfl⟩
theorem dX7_type_45 : St mX7_type 45 (.putfield 98) 3 48 := ⟨by decide +kernel, rfl⟩
theorem dX7_type_48 : St mX7_type 48 (.aload_n 0) 1 49 := ⟨by decide +kernel, rfl⟩
theorem dX7_type_49 : St mX7_type 49 (.getfield 98) 3 52 := ⟨by decide +kernel, rfl⟩
theorem dX7_type_52 : St mX7_type 52 (.ireturn) 1 53 := ⟨by decide +kernel, rfl⟩
theorem dX7_here_0 : St mX7_here 0 (.aload_n 0) 1 1 := ⟨by decide +kernel, rfl⟩
theorem dX7_here_1 : St mX7_here 1 (.getfield 102) 3 4 := ⟨by decide +kernel, rfl⟩
theorem dX7_here_4 : St mX7_here 4 (.aload_n 0) 1 5 := ⟨by decide +kernel, rfl⟩
theorem dX7_here_5 : St mX7_here 5 (.getfield 98) 3 8 := ⟨by decide +kernel, rfl⟩
theorem dX7_here_8 : St mX7_here 8 (.if_icmp .ge 30) 3 11 := ⟨by decide +kernel, rfl⟩
theorem dX7_here_11 : St mX7_here 11 (.aload_n 0) 1 12 := ⟨by decide +kernel, rfl⟩
theorem dX7_here_12 : St mX7_here 12 (.getfield 22) 3 15 := ⟨by decide +kernel, rfl⟩
theorem dX7_here_15 : St mX7_here 15 (.aload_n 0) 1 16 := ⟨by decide +kernel, rfl⟩
theorem dX7_here_16 : St mX7_here 16 (.getfield 102) 3 19 := ⟨by decide +kernel, rfl⟩
theorem dX7_here_19 : St mX7_here 19 (.iaload) 1 20 := ⟨by decide +kernel, rfl⟩
theorem dX7_here_20 : St mX7_here 20 (.bipush 32) 2 22 := ⟨by decide +kernel, rfl⟩
theorem dX7_here_22 : St mX7_here 22 (.if_icmp .ne 16) 3 25 := ⟨by decide +kernel, rfl⟩
theorem dX7_here_25 : St mX7_here 25 (.aload_n 0) 1 26 := ⟨by decide +kernel, rfl⟩
theorem dX7_here_26 : St mX7_here 26 (.dup) 1 27 := ⟨by decide +kernel, rfl⟩
theorem dX7_here_27 : St mX7_here 27 (.getfield 102) 3 30 := ⟨by decide +kernel, rfl⟩
theorem dX7_here_30 : St mX7_here 30 (.iconst 1) 1 31 := ⟨by decide +kernel, rfl⟩
theorem dX7_here_31 : St mX7_here 31 (.iadd) 1 32 := ⟨by decide +kernel, rfl⟩
theorem dX7_here_32 : St mX7_here 32 (.putfield 102) 3 35 := ⟨by decide +kernel, rfl⟩
theorem dX7_here_35 : St mX7_here 35 (.goto (-35)) 3 38 := ⟨by decide +kernel, rfl⟩
theorem dX7_here_38 : St mX7_here 38 (.aload_n 0) 1 39 := ⟨by decide +kernel, rfl⟩
theorem dX7_here_39 : St mX7_here 39 (.getfield 102) 3 42 := ⟨by decide +kernel, rfl⟩
theorem dX7_here_42 : St mX7_here 42 (.aload_n 0) 1 43 := ⟨by decide +kernel, rfl⟩
theorem dX7_here_43 : St mX7_here 43 (.getfield 98) 3 46 := ⟨by decide +kernel, rfl⟩
theorem dX7_here_46 : St mX7_here 46 (.if_icmp .ge 15) 3 49 := ⟨by decide +kernel, rfl⟩
theorem dX7_here_49 : St mX7_here 49 (.aload_n 0) 1 50 := ⟨by decide +kernel, rfl⟩
theorem dX7_here_50 : St mX7_here 50 (.getfield 22) 3 53 := ⟨by decide +kernel, rfl⟩
theorem dX7_here_53 : St mX7_here 53 (.aload_n 0) 1 54 := ⟨by decide +kernel, rfl⟩
theorem dX7_here_54 : St mX7_here 54 (.getfield 102) 3 57 := ⟨by decide +kernel, rfl⟩
theorem dX7_here_57 : St mX7_here 57 (.iaload) 1 58 := ⟨by decide +kernel, rfl⟩
theorem dX7_here_58 : St mX7_here 58 (.goto 4) 3 61 := ⟨by decide +kernel, rfl⟩
theorem dX7_here_61 : St mX7_here 61 (.iconst (-1)) 1 62 := ⟨by decide +kernel, rfl⟩
theorem dX7_here_62 : St mX7_here 62 (.ireturn) 1 63 := ⟨by decide +kernel, rfl⟩
theorem dX7_isFigure_0 : St mX7_isFigure 0 (.aload_n 0) 1 1 := ⟨by decide +kernel, rfl⟩
theorem dX7_isFigure_1 : St mX7_isFigure 1 (.getfield 102) 3 4 := ⟨by decide +kernel, rfl⟩
theorem dX7_isFigure_4 : St mX7_isFigure 4 (.aload_n 0) 1 5 := ⟨by decide +kernel, rfl⟩
theorem dX7_isFigure_5 : St mX7_isFigure 5 (.getfield 98) 3 8 := ⟨by decide +kernel, rfl⟩
theorem dX7_isFigure_8 : St mX7_isFigure 8 (.if_icmp .ge 29) 3 11 := ⟨by decide +kernel, rfl⟩
theorem dX7_isFigure_11 : St mX7_isFigure 11 (.aload_n 0) 1 12 := ⟨by decide +kernel, rfl⟩
theorem dX7_isFigure_12 : St mX7_isFigure 12 (.getfield 22) 3 15 := ⟨by decide +kernel, rfl⟩
theorem dX7_isFigure_15 : St mX7_isFigure 15 (.aload_n 0) 1 16 := ⟨by decide +kernel, rfl⟩
theorem dX7_isFigure_16 : St mX7_isFigure 16 (.getfield 102) 3 19 := ⟨by decide +kernel, rfl⟩
theorem dX7_isFigure_19 : St mX7_isFigure 19 (.iaload) 1 20 := ⟨by decide +kernel, rfl⟩
theorem dX7_isFigure_20 : St mX7_isFigure 20 (.i2l) 1 21 := ⟨by decide +kernel, rfl⟩
theorem dX7_isFigure_21 : St mX7_isFigure 21 (.ldc2_w 105) 3 24 := ⟨by decide +kernel, rfl⟩
theorem dX7_isFigure_24 : St mX7_isFigure 24 (.ldc2_w 107) 3 27 := ⟨by decide +kernel, rfl⟩
theorem dX7_isFigure_27 : St mX7_isFigure 27 (.invokestatic 43) 3 30 := ⟨by decide +kernel, rfl⟩
theorem dX7_isFigure_30 : St mX7_isFigure 30 (.ifCond .eq 7) 3 33 := ⟨by decide +kernel, rfl⟩
theorem dX7_isFigure_33 : St mX7_isFigure 33 (.iconst 1) 1 34 := ⟨by decide +kernel, rfl⟩
theorem dX7_isFigure_34 : St mX7_isFigure 34 (.goto 4) 3 37 := ⟨by decide +kernel, rfl⟩
theorem dX7_isFigure_37 : St mX7_isFigure 37 (.iconst 0) 1 38 := ⟨by decide +kernel, rfl⟩
theorem dX7_isFigure_38 : St mX7_isFigure 38 (.ireturn) 1 39 := ⟨by decide +kernel, rfl⟩
theorem dX7_readsYear_0 : St mX7_readsYear 0 (.aload_n 0) 1 1 := ⟨by decide +kernel, rfl⟩
theorem dX7_readsYear_1 : St mX7_readsYear 1 (.invokevirtual 109) 3 4 := ⟨by decide +kernel, rfl⟩
theorem dX7_readsYear_4 : St mX7_readsYear 4 (.istore_n 1) 1 5 := ⟨by decide +kernel, rfl⟩
theorem dX7_readsYear_5 : St mX7_readsYear 5 (.aload_n 0) 1 6 := ⟨by decide +kernel, rfl⟩
theorem dX7_readsYear_6 : St mX7_readsYear 6 (.aload_n 0) 1 7 := ⟨by decide +kernel, rfl⟩
theorem dX7_readsYear_7 : St mX7_readsYear 7 (.getfield 102) 3 10 := ⟨by decide +kernel, rfl⟩
theorem dX7_readsYear_10 : St mX7_readsYear 10 (.putfield 113) 3 13 := ⟨by decide +kernel, rfl⟩
theorem dX7_readsYear_13 : St mX7_readsYear 13 (.iload_n 1) 1 14 := ⟨by decide +kernel, rfl⟩
theorem dX7_readsYear_14 : St mX7_readsYear 14 (.i2l) 1 15 := ⟨by decide +kernel, rfl⟩
theorem dX7_readsYear_15 : St mX7_readsYear 15 (.ldc2_w 105) 3 18 := ⟨by decide +kernel, rfl⟩
theorem dX7_readsYear_18 : St mX7_readsYear 18 (.ldc2_w 107) 3 21 := ⟨by decide +kernel, rfl⟩
theorem dX7_readsYear_21 : St mX7_readsYear 21 (.invokestatic 43) 3 24 := ⟨by decide +kernel, rfl⟩
theorem dX7_readsYear_24 : St mX7_readsYear 24 (.ifCond .ne 5) 3 27 := ⟨by decide +kernel, rfl⟩
theorem dX7_readsYear_27 : St mX7_readsYear 27 (.iconst 0) 1 28 := ⟨by decide +kernel, rfl⟩
theorem dX7_readsYear_28 : St mX7_readsYear 28 (.ireturn) 1 29 := ⟨by decide +kernel, rfl⟩
theorem dX7_readsYear_29 : St mX7_readsYear 29 (.iload_n 1) 1 30 := ⟨by decide +kernel, rfl⟩
theorem dX7_readsYear_30 : St mX7_readsYear 30 (.bipush 48) 2 32 := ⟨by decide +kernel, rfl⟩
theorem dX7_readsYear_32 : St mX7_readsYear 32 (.isub) 1 33 := ⟨by decide +kernel, rfl⟩
theorem dX7_readsYear_33 : St mX7_readsYear 33 (.istore_n 2) 1 34 := ⟨by decide +kernel, rfl⟩
theorem dX7_readsYear_34 : St mX7_readsYear 34 (.aload_n 0) 1 35 := ⟨by decide +kernel, rfl⟩
theorem dX7_readsYear_35 : St mX7_readsYear 35 (.dup) 1 36 := ⟨by decide +kernel, rfl⟩
theorem dX7_readsYear_36 : St mX7_readsYear 36 (.getfield 102) 3 39 := ⟨by decide +kernel, rfl⟩
theorem dX7_readsYear_39 : St mX7_readsYear 39 (.iconst 1) 1 40 := ⟨by decide +kernel, rfl⟩
theorem dX7_readsYear_40 : St mX7_readsYear 40 (.iadd) 1 41 := ⟨by decide +kernel, rfl⟩
theorem dX7_readsYear_41 : St mX7_readsYear 41 (.putfield 102) 3 44 := ⟨by decide +kernel, rfl⟩
theorem dX7_readsYear_44 : St mX7_readsYear 44 (.aload_n 0) 1 45 := ⟨by decide +kernel, rfl⟩
theorem dX7_readsYear_45 : St mX7_readsYear 45 (.invokevirtual 116) 3 48 := ⟨by decide +kernel, rfl⟩
theorem dX7_readsYear_48 : St mX7_readsYear 48 (.ifCond .eq 31) 3 51 := ⟨by decide +kernel, rfl⟩
theorem dX7_readsYear_51 : St mX7_readsYear 51 (.bipush 10) 2 53 := ⟨by decide +kernel, rfl⟩
theorem dX7_readsYear_53 : St mX7_readsYear 53 (.iload_n 2) 1 54 := ⟨by decide +kernel, rfl⟩
theorem dX7_readsYear_54 : St mX7_readsYear 54 (.imul) 1 55 := ⟨by decide +kernel, rfl⟩
theorem dX7_readsYear_55 : St mX7_readsYear 55 (.aload_n 0) 1 56 := ⟨by decide +kernel, rfl⟩
theorem dX7_readsYear_56 : St mX7_readsYear 56 (.getfield 22) 3 59 := ⟨by decide +kernel, rfl⟩
theorem dX7_readsYear_59 : St mX7_readsYear 59 (.aload_n 0) 1 60 := ⟨by decide +kernel, rfl⟩
theorem dX7_readsYear_60 : St mX7_readsYear 60 (.getfield 102) 3 63 := ⟨by decide +kernel, rfl⟩
theorem dX7_readsYear_63 : St mX7_readsYear 63 (.iaload) 1 64 := ⟨by decide +kernel, rfl⟩
theorem dX7_readsYear_64 : St mX7_readsYear 64 (.iadd) 1 65 := ⟨by decide +kernel, rfl⟩
theorem dX7_readsYear_65 : St mX7_readsYear 65 (.bipush 48) 2 67 := ⟨by decide +kernel, rfl⟩
theorem dX7_readsYear_67 : St mX7_readsYear 67 (.isub) 1 68 := ⟨by decide +kernel, rfl⟩
theorem dX7_readsYear_68 : St mX7_readsYear 68 (.istore_n 2) 1 69 := ⟨by decide +kernel, rfl⟩
theorem dX7_readsYear_69 : St mX7_readsYear 69 (.aload_n 0) 1 70 := ⟨by decide +kernel, rfl⟩
theorem dX7_readsYear_70 : St mX7_readsYear 70 (.dup) 1 71 := ⟨by decide +kernel, rfl⟩
theorem dX7_readsYear_71 : St mX7_readsYear 71 (.getfield 102) 3 74 := ⟨by decide +kernel, rfl⟩
theorem dX7_readsYear_74 : St mX7_readsYear 74 (.iconst 1) 1 75 := ⟨by decide +kernel, rfl⟩
theorem dX7_readsYear_75 : St mX7_readsYear 75 (.iadd) 1 76 := ⟨by decide +kernel, rfl⟩
theorem dX7_readsYear_76 : St mX7_readsYear 76 (.putfield 102) 3 79 := ⟨by decide +kernel, rfl⟩
theorem dX7_readsYear_79 : St mX7_readsYear 79 (.iload_n 2) 1 80 := ⟨by decide +kernel, rfl⟩
theorem dX7_readsYear_80 : St mX7_readsYear 80 (.i2l) 1 81 := ⟨by decide +kernel, rfl⟩
theorem dX7_readsYear_81 : St mX7_readsYear 81 (.ldc2_w 92) 3 84 := ⟨by decide +kernel, rfl⟩
theorem dX7_readsYear_84 : St mX7_readsYear 84 (.ldc2_w 94) 3 87 := ⟨by decide +kernel, rfl⟩
theorem dX7_readsYear_87 : St mX7_readsYear 87 (.invokestatic 43) 3 90 := ⟨by decide +kernel, rfl⟩
theorem dX7_readsYear_90 : St mX7_readsYear 90 (.ifCond .ne 5) 3 93 := ⟨by decide +kernel, rfl⟩
theorem dX7_readsYear_93 : St mX7_readsYear 93 (.iconst 0) 1 94 := ⟨by decide +kernel, rfl⟩
theorem dX7_readsYear_94 : St mX7_readsYear 94 (.ireturn) 1 95 := ⟨by decide +kernel, rfl⟩
theorem dX7_readsYear_95 : St mX7_readsYear 95 (.aload_n 0) 1 96 := ⟨by decide +kernel, rfl⟩
theorem dX7_readsYear_96 : St mX7_readsYear 96 (.getfield 16) 3 99 := ⟨by decide +kernel, rfl⟩
theorem dX7_readsYear_99 : St mX7_readsYear 99 (.iconst 1) 1 100 := ⟨by decide +kernel, rfl⟩
theorem dX7_readsYear_100 : St mX7_readsYear 100 (.iload_n 2) 1 101 := ⟨by decide +kernel, rfl⟩
theorem dX7_readsYear_101 : St mX7_readsYear 101 (.iastore) 1 102 := ⟨by decide +kernel, rfl⟩
theorem dX7_readsYear_102 : St mX7_readsYear 102 (.aload_n 0) 1 103 := ⟨by decide +kernel, rfl⟩
theorem dX7_readsYear_103 : St mX7_readsYear 103 (.invokevirtual 109) 3 106 := ⟨by decide +kernel, rfl⟩
theorem dX7_readsYear_106 : St mX7_readsYear 106 (.istore_n 1) 1 107 := ⟨by decide +kernel, rfl⟩
theorem dX7_readsYear_107 : St mX7_readsYear 107 (.aload_n 0) 1 108 := ⟨by decide +kernel, rfl⟩
theorem dX7_readsYear_108 : St mX7_readsYear 108 (.aload_n 0) 1 109 := ⟨by decide +kernel, rfl⟩
theorem dX7_readsYear_109 : St mX7_readsYear 109 (.getfield 102) 3 112 := ⟨by decide +kernel, rfl⟩
theorem dX7_readsYear_112 : St mX7_readsYear 112 (.putfield 113) 3 115 := ⟨by decide +kernel, rfl⟩
theorem dX7_readsYear_115 : St mX7_readsYear 115 (.aload_n 0) 1 116 := ⟨by decide +kernel, rfl⟩
theorem dX7_readsYear_116 : St mX7_readsYear 116 (.dup) 1 117 := ⟨by decide +kernel, rfl⟩
theorem dX7_readsYear_117 : St mX7_readsYear 117 (.getfield 102) 3 120 := ⟨by decide +kernel, rfl⟩
theorem dX7_readsYear_120 : St mX7_readsYear 120 (.iconst 1) 1 121 := ⟨by decide +kernel, rfl⟩
theorem dX7_readsYear_121 : St mX7_readsYear 121 (.iadd) 1 122 := ⟨by decide +kernel, rfl⟩
theorem dX7_readsYear_122 : St mX7_readsYear 122 (.putfield 102) 3 125 := ⟨by decide +kernel, rfl⟩
theorem dX7_readsYear_125 : St mX7_readsYear 125 (.iload_n 1) 1 126 := ⟨by decide +kernel, rfl⟩
theorem dX7_readsYear_126 : St mX7_readsYear 126 (.bipush 59) 2 128 := ⟨by decide +kernel, rfl⟩
theorem dX7_readsYear_128 : St mX7_readsYear 128 (.if_icmp .ne 7) 3 131 := ⟨by decide +kernel, rfl⟩
theorem dX7_readsYear_131 : St mX7_readsYear 131 (.iconst 1) 1 132 := ⟨by decide +kernel, rfl⟩
theorem dX7_readsYear_132 : St mX7_readsYear 132 (.goto 4) 3 135 := ⟨by decide +kernel, rfl⟩
theorem dX7_readsYear_135 : St mX7_readsYear 135 (.iconst 0) 1 136 := ⟨by decide +kernel, rfl⟩
theorem dX7_readsYear_136 : St mX7_readsYear 136 (.ireturn) 1 137 := ⟨by decide +kernel, rfl⟩
theorem dX7_kindOf_0 : St mX7_kindOf 0 (.iload_n 0) 1 1 := ⟨by decide +kernel, rfl⟩
theorem dX7_kindOf_1 : St mX7_kindOf 1 (.bipush 112) 2 3 := ⟨by decide +kernel, rfl⟩
theorem dX7_kindOf_3 : St mX7_kindOf 3 (.if_icmp .ne 7) 3 6 := ⟨by decide +kernel, rfl⟩
theorem dX7_kindOf_6 : St mX7_kindOf 6 (.iconst 0) 1 7 := ⟨by decide +kernel, rfl⟩
theorem dX7_kindOf_7 : St mX7_kindOf 7 (.goto 44) 3 10 := ⟨by decide +kernel, rfl⟩
theorem dX7_kindOf_10 : St mX7_kindOf 10 (.iload_n 0) 1 11 := ⟨by decide +kernel, rfl⟩
theorem dX7_kindOf_11 : St mX7_kindOf 11 (.bipush 115) 2 13 := ⟨by decide +kernel, rfl⟩
theorem dX7_kindOf_13 : St mX7_kindOf 13 (.if_icmp .ne 7) 3 16 := ⟨by decide +kernel, rfl⟩
theorem dX7_kindOf_16 : St mX7_kindOf 16 (.iconst 1) 1 17 := ⟨by decide +kernel, rfl⟩
theorem dX7_kindOf_17 : St mX7_kindOf 17 (.goto 34) 3 20 := ⟨by decide +kernel, rfl⟩
theorem dX7_kindOf_20 : St mX7_kindOf 20 (.iload_n 0) 1 21 := ⟨by decide +kernel, rfl⟩
theorem dX7_kindOf_21 : St mX7_kindOf 21 (.bipush 109) 2 23 := ⟨by decide +kernel, rfl⟩
theorem dX7_kindOf_23 : St mX7_kindOf 23 (.if_icmp .ne 7) 3 26 := ⟨by decide +kernel, rfl⟩
theorem dX7_kindOf_26 : St mX7_kindOf 26 (.iconst 2) 1 27 := ⟨by decide +kernel, rfl⟩
theorem dX7_kindOf_27 : St mX7_kindOf 27 (.goto 24) 3 30 := ⟨by decide +kernel, rfl⟩
theorem dX7_kindOf_30 : St mX7_kindOf 30 (.iload_n 0) 1 31 := ⟨by decide +kernel, rfl⟩
theorem dX7_kindOf_31 : St mX7_kindOf 31 (.bipush 100) 2 33 := ⟨by decide +kernel, rfl⟩
theorem dX7_kindOf_33 : St mX7_kindOf 33 (.if_icmp .ne 7) 3 36 := ⟨by decide +kernel, rfl⟩
theorem dX7_kindOf_36 : St mX7_kindOf 36 (.iconst 3) 1 37 := ⟨by decide +kernel, rfl⟩
theorem dX7_kindOf_37 : St mX7_kindOf 37 (.goto 14) 3 40 := ⟨by decide +kernel, rfl⟩
theorem dX7_kindOf_40 : St mX7_kindOf 40 (.iload_n 0) 1 41 := ⟨by decide +kernel, rfl⟩
theorem dX7_kindOf_41 : St mX7_kindOf 41 (.bipush 97) 2 43 := ⟨by decide +kernel, rfl⟩
theorem dX7_kindOf_43 : St mX7_kindOf 43 (.if_icmp .ne 7) 3 46 := ⟨by decide +kernel, rfl⟩
theorem dX7_kindOf_46 : St mX7_kindOf 46 (.iconst 4) 1 47 := ⟨by decide +kernel, rfl⟩
theorem dX7_kindOf_47 : St mX7_kindOf 47 (.goto 4) 3 50 := ⟨by decide +kernel, rfl⟩
theorem dX7_kindOf_50 : St mX7_kindOf 50 (.iconst (-1)) 1 51 := ⟨by decide +kernel, rfl⟩
theorem dX7_kindOf_51 : St mX7_kindOf 51 (.ireturn) 1 52 := ⟨by decide +kernel, rfl⟩
theorem dX7_readsGarden_0 : St mX7_readsGarden 0 (.aload_n 0) 1 1 := ⟨by decide +kernel, rfl⟩
theorem dX7_readsGarden_1 : St mX7_readsGarden 1 (.getfield 16) 3 4 := ⟨by decide +kernel, rfl⟩
theorem dX7_readsGarden_4 : St mX7_readsGarden 4 (.iconst 0) 1 5 := ⟨by decide +kernel, rfl⟩
theorem dX7_readsGarden_5 : St mX7_readsGarden 5 (.iaload) 1 6 := ⟨by decide +kernel, rfl⟩
theorem dX7_readsGarden_6 : St mX7_readsGarden 6 (.istore_n 1) 1 7 := ⟨by decide +kernel, rfl⟩
theorem dX7_readsGarden_7 : St mX7_readsGarden 7 (.aload_n 0) 1 8 := ⟨by decide +kernel, rfl⟩
theorem dX7_readsGarden_8 : St mX7_readsGarden 8 (.invokevirtual 109) 3 11 := ⟨by decide +kernel, rfl⟩
theorem dX7_readsGarden_11 : St mX7_readsGarden 11 (.invokestatic 120) 3 14 := ⟨by decide +kernel, rfl⟩
theorem dX7_readsGarden_14 : St mX7_readsGarden 14 (.istore_n 2) 1 15 := ⟨by decide +kernel, rfl⟩
theorem dX7_readsGarden_15 : St mX7_readsGarden 15 (.aload_n 0) 1 16 := ⟨by decide +kernel, rfl⟩
theorem dX7_readsGarden_16 : St mX7_readsGarden 16 (.aload_n 0) 1 17 := ⟨by decide +kernel, rfl⟩
theorem dX7_readsGarden_17 : St mX7_readsGarden 17 (.getfield 102) 3 20 := ⟨by decide +kernel, rfl⟩
theorem dX7_readsGarden_20 : St mX7_readsGarden 20 (.putfield 113) 3 23 := ⟨by decide +kernel, rfl⟩
theorem dX7_readsGarden_23 : St mX7_readsGarden 23 (.iload_n 2) 1 24 := ⟨by decide +kernel, rfl⟩
theorem dX7_readsGarden_24 : St mX7_readsGarden 24 (.ifCond .ge 5) 3 27 := ⟨by decide +kernel, rfl⟩
theorem dX7_readsGarden_27 : St mX7_readsGarden 27 (.iconst 0) 1 28 := ⟨by decide +kernel, rfl⟩
theorem dX7_readsGarden_28 : St mX7_readsGarden 28 (.ireturn) 1 29 := ⟨by decide +kernel, rfl⟩
theorem dX7_readsGarden_29 : St mX7_readsGarden 29 (.aload_n 0) 1 30 := ⟨by decide +kernel, rfl⟩
theorem dX7_readsGarden_30 : St mX7_readsGarden 30 (.dup) 1 31 := ⟨by decide +kernel, rfl⟩
theorem dX7_readsGarden_31 : St mX7_readsGarden 31 (.getfield 102) 3 34 := ⟨by decide +kernel, rfl⟩
theorem dX7_readsGarden_34 : St mX7_readsGarden 34 (.iconst 1) 1 35 := ⟨by decide +kernel, rfl⟩
theorem dX7_readsGarden_35 : St mX7_readsGarden 35 (.iadd) 1 36 := ⟨by decide +kernel, rfl⟩
theorem dX7_readsGarden_36 : St mX7_readsGarden 36 (.putfield 102) 3 39 := ⟨by decide +kernel, rfl⟩
theorem dX7_readsGarden_39 : St mX7_readsGarden 39 (.aload_n 0) 1 40 := ⟨by decide +kernel, rfl⟩
theorem dX7_readsGarden_40 : St mX7_readsGarden 40 (.invokevirtual 109) 3 43 := ⟨by decide +kernel, rfl⟩
theorem dX7_readsGarden_43 : St mX7_readsGarden 43 (.istore_n 3) 1 44 := ⟨by decide +kernel, rfl⟩
theorem dX7_readsGarden_44 : St mX7_readsGarden 44 (.aload_n 0) 1 45 := ⟨by decide +kernel, rfl⟩
theorem dX7_readsGarden_45 : St mX7_readsGarden 45 (.aload_n 0) 1 46 := ⟨by decide +kernel, rfl⟩
theorem dX7_readsGarden_46 : St mX7_readsGarden 46 (.getfield 102) 3 49 := ⟨by decide +kernel, rfl⟩
theorem dX7_readsGarden_49 : St mX7_readsGarden 49 (.putfield 113) 3 52 := ⟨by decide +kernel, rfl⟩
theorem dX7_readsGarden_52 : St mX7_readsGarden 52 (.iload_n 3) 1 53 := ⟨by decide +kernel, rfl⟩
theorem dX7_readsGarden_53 : St mX7_readsGarden 53 (.i2l) 1 54 := ⟨by decide +kernel, rfl⟩
theorem dX7_readsGarden_54 : St mX7_readsGarden 54 (.ldc2_w 105) 3 57 := ⟨by decide +kernel, rfl⟩
theorem dX7_readsGarden_57 : St mX7_readsGarden 57 (.ldc2_w 107) 3 60 := ⟨by decide +kernel, rfl⟩
theorem dX7_readsGarden_60 : St mX7_readsGarden 60 (.invokestatic 43) 3 63 := ⟨by decide +kernel, rfl⟩
theorem dX7_readsGarden_63 : St mX7_readsGarden 63 (.ifCond .ne 5) 3 66 := ⟨by decide +kernel, rfl⟩
theorem dX7_readsGarden_66 : St mX7_readsGarden 66 (.iconst 0) 1 67 := ⟨by decide +kernel, rfl⟩
theorem dX7_readsGarden_67 : St mX7_readsGarden 67 (.ireturn) 1 68 := ⟨by decide +kernel, rfl⟩
theorem dX7_readsGarden_68 : St mX7_readsGarden 68 (.aload_n 0) 1 69 := ⟨by decide +kernel, rfl⟩
theorem dX7_readsGarden_69 : St mX7_readsGarden 69 (.dup) 1 70 := ⟨by decide +kernel, rfl⟩
theorem dX7_readsGarden_70 : St mX7_readsGarden 70 (.getfield 102) 3 73 := ⟨by decide +kernel, rfl⟩
theorem dX7_readsGarden_73 : St mX7_readsGarden 73 (.iconst 1) 1 74 := ⟨by decide +kernel, rfl⟩
theorem dX7_readsGarden_74 : St mX7_readsGarden 74 (.iadd) 1 75 := ⟨by decide +kernel, rfl⟩
theorem dX7_readsGarden_75 : St mX7_readsGarden 75 (.putfield 102) 3 78 := ⟨by decide +kernel, rfl⟩
theorem dX7_readsGarden_78 : St mX7_readsGarden 78 (.aload_n 0) 1 79 := ⟨by decide +kernel, rfl⟩
theorem dX7_readsGarden_79 : St mX7_readsGarden 79 (.getfield 16) 3 82 := ⟨by decide +kernel, rfl⟩
theorem dX7_readsGarden_82 : St mX7_readsGarden 82 (.iconst 4) 1 83 := ⟨by decide +kernel, rfl⟩
theorem dX7_readsGarden_83 : St mX7_readsGarden 83 (.iload_n 1) 1 84 := ⟨by decide +kernel, rfl⟩
theorem dX7_readsGarden_84 : St mX7_readsGarden 84 (.iadd) 1 85 := ⟨by decide +kernel, rfl⟩
theorem dX7_readsGarden_85 : St mX7_readsGarden 85 (.iload_n 2) 1 86 := ⟨by decide +kernel, rfl⟩
theorem dX7_readsGarden_86 : St mX7_readsGarden 86 (.iastore) 1 87 := ⟨by decide +kernel, rfl⟩
theorem dX7_readsGarden_87 : St mX7_readsGarden 87 (.aload_n 0) 1 88 := ⟨by decide +kernel, rfl⟩
theorem dX7_readsGarden_88 : St mX7_readsGarden 88 (.getfield 16) 3 91 := ⟨by decide +kernel, rfl⟩
theorem dX7_readsGarden_91 : St mX7_readsGarden 91 (.bipush 10) 2 93 := ⟨by decide +kernel, rfl⟩
theorem dX7_readsGarden_93 : St mX7_readsGarden 93 (.iload_n 1) 1 94 := ⟨by decide +kernel, rfl⟩
theorem dX7_readsGarden_94 : St mX7_readsGarden 94 (.iadd) 1 95 := ⟨by decide +kernel, rfl⟩
theorem dX7_readsGarden_95 : St mX7_readsGarden 95 (.iload_n 3) 1 96 := ⟨by decide +kernel, rfl⟩
theorem dX7_readsGarden_96 : St mX7_readsGarden 96 (.bipush 48) 2 98 := ⟨by decide +kernel, rfl⟩
theorem dX7_readsGarden_98 : St mX7_readsGarden 98 (.isub) 1 99 := ⟨by decide +kernel, rfl⟩
theorem dX7_readsGarden_99 : St mX7_readsGarden 99 (.iastore) 1 100 := ⟨by decide +kernel, rfl⟩
theorem dX7_readsGarden_100 : St mX7_readsGarden 100 (.aload_n 0) 1 101 := ⟨by decide +kernel, rfl⟩
theorem dX7_readsGarden_101 : St mX7_readsGarden 101 (.getfield 16) 3 104 := ⟨by decide +kernel, rfl⟩
theorem dX7_readsGarden_104 : St mX7_readsGarden 104 (.iconst 0) 1 105 := ⟨by decide +kernel, rfl⟩
theorem dX7_readsGarden_105 : St mX7_readsGarden 105 (.dup2) 1 106 := ⟨by decide +kernel, rfl⟩
theorem dX7_readsGarden_106 : St mX7_readsGarden 106 (.iaload) 1 107 := ⟨by decide +kernel, rfl⟩
theorem dX7_readsGarden_107 : St mX7_readsGarden 107 (.iconst 1) 1 108 := ⟨by decide +kernel, rfl⟩
theorem dX7_readsGarden_108 : St mX7_readsGarden 108 (.iadd) 1 109 := ⟨by decide +kernel, rfl⟩
theorem dX7_readsGarden_109 : St mX7_readsGarden 109 (.iastore) 1 110 := ⟨by decide +kernel, rfl⟩
theorem dX7_readsGarden_110 : St mX7_readsGarden 110 (.aload_n 0) 1 111 := ⟨by decide +kernel, rfl⟩
theorem dX7_readsGarden_111 : St mX7_readsGarden 111 (.invokevirtual 109) 3 114 := ⟨by decide +kernel, rfl⟩
theorem dX7_readsGarden_114 : St mX7_readsGarden 114 (.istore_n 3) 1 115 := ⟨by decide +kernel, rfl⟩
theorem dX7_readsGarden_115 : St mX7_readsGarden 115 (.aload_n 0) 1 116 := ⟨by decide +kernel, rfl⟩
theorem dX7_readsGarden_116 : St mX7_readsGarden 116 (.aload_n 0) 1 117 := ⟨by decide +kernel, rfl⟩
theorem dX7_readsGarden_117 : St mX7_readsGarden 117 (.getfield 102) 3 120 := ⟨by decide +kernel, rfl⟩
theorem dX7_readsGarden_120 : St mX7_readsGarden 120 (.putfield 113) 3 123 := ⟨by decide +kernel, rfl⟩
theorem dX7_readsGarden_123 : St mX7_readsGarden 123 (.aload_n 0) 1 124 := ⟨by decide +kernel, rfl⟩
theorem dX7_readsGarden_124 : St mX7_readsGarden 124 (.iload_n 3) 1 125 := ⟨by decide +kernel, rfl⟩
theorem dX7_readsGarden_125 : St mX7_readsGarden 125 (.ifCond .lt 7) 3 128 := ⟨by decide +kernel, rfl⟩
theorem dX7_readsGarden_128 : St mX7_readsGarden 128 (.iconst 1) 1 129 := ⟨by decide +kernel, rfl⟩
theorem dX7_readsGarden_129 : St mX7_readsGarden 129 (.goto 4) 3 132 := ⟨by decide +kernel, rfl⟩
theorem dX7_readsGarden_132 : St mX7_readsGarden 132 (.iconst 0) 1 133 := ⟨by decide +kernel, rfl⟩
theorem dX7_readsGarden_133 : St mX7_readsGarden 133 (.putfield 123) 3 136 := ⟨by decide +kernel, rfl⟩
theorem dX7_readsGarden_136 : St mX7_readsGarden 136 (.aload_n 0) 1 137 := ⟨by decide +kernel, rfl⟩
theorem dX7_readsGarden_137 : St mX7_readsGarden 137 (.getfield 123) 3 140 := ⟨by decide +kernel, rfl⟩
theorem dX7_readsGarden_140 : St mX7_readsGarden 140 (.ifCond .eq 11) 3 143 := ⟨by decide +kernel, rfl⟩
theorem dX7_readsGarden_143 : St mX7_readsGarden 143 (.aload_n 0) 1 144 := ⟨by decide +kernel, rfl⟩
theorem dX7_readsGarden_144 : St mX7_readsGarden 144 (.iload_n 1) 1 145 := ⟨by decide +kernel, rfl⟩
theorem dX7_readsGarden_145 : St mX7_readsGarden 145 (.invokevirtual 127) 3 148 := ⟨by decide +kernel, rfl⟩
theorem dX7_readsGarden_148 : St mX7_readsGarden 148 (.ifCond .eq 7) 3 151 := ⟨by decide +kernel, rfl⟩
theorem dX7_readsGarden_151 : St mX7_readsGarden 151 (.iconst 1) 1 152 := ⟨by decide +kernel, rfl⟩
theorem dX7_readsGarden_152 : St mX7_readsGarden 152 (.goto 4) 3 155 := ⟨by decide +kernel, rfl⟩
theorem dX7_readsGarden_155 : St mX7_readsGarden 155 (.iconst 0) 1 156 := ⟨by decide +kernel, rfl⟩
theorem dX7_readsGarden_156 : St mX7_readsGarden 156 (.ireturn) 1 157 := ⟨by decide +kernel, rfl⟩
theorem dX7_readsQuarrel_0 : St mX7_readsQuarrel 0 (.iconst 0) 1 1 := ⟨by decide +kernel, rfl⟩
theorem dX7_readsQuarrel_1 : St mX7_readsQuarrel 1 (.istore_n 2) 1 2 := ⟨by decide +kernel, rfl⟩
theorem dX7_readsQuarrel_2 : St mX7_readsQuarrel 2 (.iconst 0) 1 3 := ⟨by decide +kernel, rfl⟩
theorem dX7_readsQuarrel_3 : St mX7_readsQuarrel 3 (.istore_n 3) 1 4 := ⟨by decide +kernel, rfl⟩
theorem dX7_readsQuarrel_4 : St mX7_readsQuarrel 4 (.iload_n 3) 1 5 := ⟨by decide +kernel, rfl⟩
theorem dX7_readsQuarrel_5 : St mX7_readsQuarrel 5 (.iconst 2) 1 6 := ⟨by decide +kernel, rfl⟩
theorem dX7_readsQuarrel_6 : St mX7_readsQuarrel 6 (.if_icmp .ge 66) 3 9 := ⟨by decide +kernel, rfl⟩
theorem dX7_readsQuarrel_9 : St mX7_readsQuarrel 9 (.aload_n 0) 1 10 := ⟨by decide +kernel, rfl⟩
theorem dX7_readsQuarrel_10 : St mX7_readsQuarrel 10 (.invokevirtual 109) 3 13 := ⟨by decide +kernel, rfl⟩
theorem dX7_readsQuarrel_13 : St mX7_readsQuarrel 13 (.istore 4) 2 15 := ⟨by decide +kernel, rfl⟩
theorem dX7_readsQuarrel_15 : St mX7_readsQuarrel 15 (.aload_n 0) 1 16 := ⟨by decide +kernel, rfl⟩
theorem dX7_readsQuarrel_16 : St mX7_readsQuarrel 16 (.aload_n 0) 1 17 := ⟨by decide +kernel, rfl⟩
theorem dX7_readsQuarrel_17 : St mX7_readsQuarrel 17 (.getfield 102) 3 20 := ⟨by decide +kernel, rfl⟩
theorem dX7_readsQuarrel_20 : St mX7_readsQuarrel 20 (.putfield 113) 3 23 := ⟨by decide +kernel, rfl⟩
theorem dX7_readsQuarrel_23 : St mX7_readsQuarrel 23 (.iload_n 1) 1 24 := ⟨by decide +kernel, rfl⟩
theorem dX7_readsQuarrel_24 : St mX7_readsQuarrel 24 (.iconst 5) 1 25 := ⟨by decide +kernel, rfl⟩
theorem dX7_readsQuarrel_25 : St mX7_readsQuarrel 25 (.if_icmp .eq 18) 3 28 := ⟨by decide +kernel, rfl⟩
theorem dX7_readsQuarrel_28 : St mX7_readsQuarrel 28 (.iload 4) 2 30 := ⟨by decide +kernel, rfl⟩
theorem dX7_readsQuarrel_30 : St mX7_readsQuarrel 30 (.i2l) 1 31 := ⟨by decide +kernel, rfl⟩
theorem dX7_readsQuarrel_31 : St mX7_readsQuarrel 31 (.ldc2_w 105) 3 34 := ⟨by decide +kernel, rfl⟩
theorem dX7_readsQuarrel_34 : St mX7_readsQuarrel 34 (.ldc2_w 107) 3 37 := ⟨by decide +kernel, rfl⟩
theorem dX7_readsQuarrel_37 : St mX7_readsQuarrel 37 (.invokestatic 43) 3 40 := ⟨by decide +kernel, rfl⟩
theorem dX7_readsQuarrel_40 : St mX7_readsQuarrel 40 (.ifCond .ne 5) 3 43 := ⟨by decide +kernel, rfl⟩
theorem dX7_readsQuarrel_43 : St mX7_readsQuarrel 43 (.iconst 0) 1 44 := ⟨by decide +kernel, rfl⟩
theorem dX7_readsQuarrel_44 : St mX7_readsQuarrel 44 (.ireturn) 1 45 := ⟨by decide +kernel, rfl⟩
theorem dX7_readsQuarrel_45 : St mX7_readsQuarrel 45 (.bipush 10) 2 47 := ⟨by decide +kernel, rfl⟩
theorem dX7_readsQuarrel_47 : St mX7_readsQuarrel 47 (.iload_n 2) 1 48 := ⟨by decide +kernel, rfl⟩
theorem dX7_readsQuarrel_48 : St mX7_readsQuarrel 48 (.imul) 1 49 := ⟨by decide +kernel, rfl⟩
theorem dX7_readsQuarrel_49 : St mX7_readsQuarrel 49 (.iload 4) 2 51 := ⟨by decide +kernel, rfl⟩
theorem dX7_readsQuarrel_51 : St mX7_readsQuarrel 51 (.iadd) 1 52 := ⟨by decide +kernel, rfl⟩
theorem dX7_readsQuarrel_52 : St mX7_readsQuarrel 52 (.bipush 48) 2 54 := ⟨by decide +kernel, rfl⟩
theorem dX7_readsQuarrel_54 : St mX7_readsQuarrel 54 (.isub) 1 55 := ⟨by decide +kernel, rfl⟩
theorem dX7_readsQuarrel_55 : St mX7_readsQuarrel 55 (.istore_n 2) 1 56 := ⟨by decide +kernel, rfl⟩
theorem dX7_readsQuarrel_56 : St mX7_readsQuarrel 56 (.aload_n 0) 1 57 := ⟨by decide +kernel, rfl⟩
theorem dX7_readsQuarrel_57 : St mX7_readsQuarrel 57 (.dup) 1 58 := ⟨by decide +kernel, rfl⟩
theorem dX7_readsQuarrel_58 : St mX7_readsQuarrel 58 (.getfield 102) 3 61 := ⟨by decide +kernel, rfl⟩
theorem dX7_readsQuarrel_61 : St mX7_readsQuarrel 61 (.iconst 1) 1 62 := ⟨by decide +kernel, rfl⟩
theorem dX7_readsQuarrel_62 : St mX7_readsQuarrel 62 (.iadd) 1 63 := ⟨by decide +kernel, rfl⟩
theorem dX7_readsQuarrel_63 : St mX7_readsQuarrel 63 (.putfield 102) 3 66 := ⟨by decide +kernel, rfl⟩
theorem dX7_readsQuarrel_66 : St mX7_readsQuarrel 66 (.iinc 3 1) 3 69 := ⟨by decide +kernel, rfl⟩
theorem dX7_readsQuarrel_69 : St mX7_readsQuarrel 69 (.goto (-65)) 3 72 := ⟨by decide +kernel, rfl⟩
theorem dX7_readsQuarrel_72 : St mX7_readsQuarrel 72 (.aload_n 0) 1 73 := ⟨by decide +kernel, rfl⟩
theorem dX7_readsQuarrel_73 : St mX7_readsQuarrel 73 (.getfield 16) 3 76 := ⟨by decide +kernel, rfl⟩
theorem dX7_readsQuarrel_76 : St mX7_readsQuarrel 76 (.bipush 27) 2 78 := ⟨by decide +kernel, rfl⟩
theorem dX7_readsQuarrel_78 : St mX7_readsQuarrel 78 (.iload_n 1) 1 79 := ⟨by decide +kernel, rfl⟩
theorem dX7_readsQuarrel_79 : St mX7_readsQuarrel 79 (.iadd) 1 80 := ⟨by decide +kernel, rfl⟩
theorem dX7_readsQuarrel_80 : St mX7_readsQuarrel 80 (.iload_n 2) 1 81 := ⟨by decide +kernel, rfl⟩
theorem dX7_readsQuarrel_81 : St mX7_readsQuarrel 81 (.iastore) 1 82 := ⟨by decide +kernel, rfl⟩
theorem dX7_readsQuarrel_82 : St mX7_readsQuarrel 82 (.aload_n 0) 1 83 := ⟨by decide +kernel, rfl⟩
theorem dX7_readsQuarrel_83 : St mX7_readsQuarrel 83 (.invokevirtual 109) 3 86 := ⟨by decide +kernel, rfl⟩
theorem dX7_readsQuarrel_86 : St mX7_readsQuarrel 86 (.istore_n 3) 1 87 := ⟨by decide +kernel, rfl⟩
theorem dX7_readsQuarrel_87 : St mX7_readsQuarrel 87 (.aload_n 0) 1 88 := ⟨by decide +kernel, rfl⟩
theorem dX7_readsQuarrel_88 : St mX7_readsQuarrel 88 (.aload_n 0) 1 89 := ⟨by decide +kernel, rfl⟩
theorem dX7_readsQuarrel_89 : St mX7_readsQuarrel 89 (.getfield 102) 3 92 := ⟨by decide +kernel, rfl⟩
theorem dX7_readsQuarrel_92 : St mX7_readsQuarrel 92 (.putfield 113) 3 95 := ⟨by decide +kernel, rfl⟩
theorem dX7_readsQuarrel_95 : St mX7_readsQuarrel 95 (.aload_n 0) 1 96 := ⟨by decide +kernel, rfl⟩
theorem dX7_readsQuarrel_96 : St mX7_readsQuarrel 96 (.dup) 1 97 := ⟨by decide +kernel, rfl⟩
theorem dX7_readsQuarrel_97 : St mX7_readsQuarrel 97 (.getfield 102) 3 100 := ⟨by decide +kernel, rfl⟩
theorem dX7_readsQuarrel_100 : St mX7_readsQuarrel 100 (.iconst 1) 1 101 := ⟨by decide +kernel, rfl⟩
theorem dX7_readsQuarrel_101 : St mX7_readsQuarrel 101 (.iadd) 1 102 := ⟨by decide +kernel, rfl⟩
theorem dX7_readsQuarrel_102 : St mX7_readsQuarrel 102 (.putfield 102) 3 105 := ⟨by decide +kernel, rfl⟩
theorem dX7_readsQuarrel_105 : St mX7_readsQuarrel 105 (.iload_n 3) 1 106 := ⟨by decide +kernel, rfl⟩
theorem dX7_readsQuarrel_106 : St mX7_readsQuarrel 106 (.bipush 44) 2 108 := ⟨by decide +kernel, rfl⟩
theorem dX7_readsQuarrel_108 : St mX7_readsQuarrel 108 (.if_icmp .ne 7) 3 111 := ⟨by decide +kernel, rfl⟩
theorem dX7_readsQuarrel_111 : St mX7_readsQuarrel 111 (.iconst 1) 1 112 := ⟨by decide +kernel, rfl⟩
theorem dX7_readsQuarrel_112 : St mX7_readsQuarrel 112 (.goto 4) 3 115 := ⟨by decide +kernel, rfl⟩
theorem dX7_readsQuarrel_115 : St mX7_readsQuarrel 115 (.iconst 0) 1 116 := ⟨by decide +kernel, rfl⟩
theorem dX7_readsQuarrel_116 : St mX7_readsQuarrel 116 (.ireturn) 1 117 := ⟨by decide +kernel, rfl⟩
theorem dX7_reads_0 : St mX7_reads 0 (.aload_n 0) 1 1 := ⟨by decide +kernel, rfl⟩
theorem dX7_reads_1 : St mX7_reads 1 (.getfield 16) 3 4 := ⟨by decide +kernel, rfl⟩
theorem dX7_reads_4 : St mX7_reads 4 (.iconst 0) 1 5 := ⟨by decide +kernel, rfl⟩
theorem dX7_reads_5 : St mX7_reads 5 (.aload_n 0) 1 6 := ⟨by decide +kernel, rfl⟩
theorem dX7_reads_6 : St mX7_reads 6 (.getfield 7) 3 9 := ⟨by decide +kernel, rfl⟩
theorem dX7_reads_9 : St mX7_reads 9 (.iconst 2) 1 10 := ⟨by decide +kernel, rfl⟩
theorem dX7_reads_10 : St mX7_reads 10 (.iaload) 1 11 := ⟨by decide +kernel, rfl⟩
theorem dX7_reads_11 : St mX7_reads 11 (.aload_n 0) 1 12 := ⟨by decide +kernel, rfl⟩
theorem dX7_reads_12 : St mX7_reads 12 (.getfield 7) 3 15 := ⟨by decide +kernel, rfl⟩
theorem dX7_reads_15 : St mX7_reads 15 (.bipush 37) 2 17 := ⟨by decide +kernel, rfl⟩
theorem dX7_reads_17 : St mX7_reads 17 (.iaload) 1 18 := ⟨by decide +kernel, rfl⟩
theorem dX7_reads_18 : St mX7_reads 18 (.invokestatic 35) 3 21 := ⟨by decide +kernel, rfl⟩
theorem dX7_reads_21 : St mX7_reads 21 (.aload_n 0) 1 22 := ⟨by decide +kernel, rfl⟩
theorem dX7_reads_22 : St mX7_reads 22 (.iconst 0) 1 23 := ⟨by decide +kernel, rfl⟩
theorem dX7_reads_23 : St mX7_reads 23 (.putfield 102) 3 26 := ⟨by decide +kernel, rfl⟩
theorem dX7_reads_26 : St mX7_reads 26 (.aload_n 0) 1 27 := ⟨by decide +kernel, rfl⟩
theorem dX7_reads_27 : St mX7_reads 27 (.invokevirtual 130) 3 30 := ⟨by decide +kernel, rfl⟩
theorem dX7_reads_30 : St mX7_reads 30 (.ifCond .ne 5) 3 33 := ⟨by decide +kernel, rfl⟩
theorem dX7_reads_33 : St mX7_reads 33 (.iconst 0) 1 34 := ⟨by decide +kernel, rfl⟩
theorem dX7_reads_34 : St mX7_reads 34 (.ireturn) 1 35 := ⟨by decide +kernel, rfl⟩
theorem dX7_reads_35 : St mX7_reads 35 (.aload_n 0) 1 36 := ⟨by decide +kernel, rfl⟩
theorem dX7_reads_36 : St mX7_reads 36 (.iconst 1) 1 37 := ⟨by decide +kernel, rfl⟩
theorem dX7_reads_37 : St mX7_reads 37 (.putfield 123) 3 40 := ⟨by decide +kernel, rfl⟩
theorem dX7_reads_40 : St mX7_reads 40 (.aload_n 0) 1 41 := ⟨by decide +kernel, rfl⟩
theorem dX7_reads_41 : St mX7_reads 41 (.getfield 123) 3 44 := ⟨by decide +kernel, rfl⟩
theorem dX7_reads_44 : St mX7_reads 44 (.ifCond .eq 12) 3 47 := ⟨by decide +kernel, rfl⟩
theorem dX7_reads_47 : St mX7_reads 47 (.aload_n 0) 1 48 := ⟨by decide +kernel, rfl⟩
theorem dX7_reads_48 : St mX7_reads 48 (.invokevirtual 133) 3 51 := ⟨by decide +kernel, rfl⟩
theorem dX7_reads_51 : St mX7_reads 51 (.ifCond .ne (-11)) 3 54 := ⟨by decide +kernel, rfl⟩
theorem dX7_reads_54 : St mX7_reads 54 (.iconst 0) 1 55 := ⟨by decide +kernel, rfl⟩
theorem dX7_reads_55 : St mX7_reads 55 (.ireturn) 1 56 := ⟨by decide +kernel, rfl⟩
theorem dX7_reads_56 : St mX7_reads 56 (.iconst 1) 1 57 := ⟨by decide +kernel, rfl⟩
theorem dX7_reads_57 : St mX7_reads 57 (.ireturn) 1 58 := ⟨by decide +kernel, rfl⟩
end
section
theorem dX7_street_0 : St mX7_street 0 (.aload_n 0) 1 1 := ⟨by decide +kernel, rfl⟩
theorem dX7_street_1 : St mX7_street 1 (.invokevirtual 136) 3 4 := ⟨by decide +kernel, rfl⟩
theorem dX7_street_4 : St mX7_street 4 (.istore_n 1) 1 5 := ⟨by decide +kernel, rfl⟩
theorem dX7_street_5 : St mX7_street 5 (.aload_n 0) 1 6 := ⟨by decide +kernel, rfl⟩
theorem dX7_street_6 : St mX7_street 6 (.iconst 0) 1 7 := ⟨by decide +kernel, rfl⟩
theorem dX7_street_7 : St mX7_street 7 (.putfield 98) 3 10 := ⟨by decide +kernel, rfl⟩
theorem dX7_street_10 : St mX7_street 10 (.iload_n 1) 1 11 := ⟨by decide +kernel, rfl⟩
theorem dX7_street_11 : St mX7_street 11 (.ifCond .ne 11) 3 14 := ⟨by decide +kernel, rfl⟩
theorem dX7_street_14 : St mX7_street 14 (.bipush (-20)) 2 16 := ⟨by decide +kernel, rfl⟩
theorem dX7_street_16 : St mX7_street 16 (.aload_n 0) 1 17 := ⟨by decide +kernel, rfl⟩
theorem dX7_street_17 : St mX7_street 17 (.getfield 113) 3 20 := ⟨by decide +kernel, rfl⟩
theorem dX7_street_20 : St mX7_street 20 (.isub) 1 21 := ⟨by decide +kernel, rfl⟩
theorem dX7_street_21 : St mX7_street 21 (.ireturn) 1 22 := ⟨by decide +kernel, rfl⟩
theorem dX7_street_22 : St mX7_street 22 (.aload_n 0) 1 23 := ⟨by decide +kernel, rfl⟩
theorem dX7_street_23 : St mX7_street 23 (.getfield 16) 3 26 := ⟨by decide +kernel, rfl⟩
theorem dX7_street_26 : St mX7_street 26 (.iconst 0) 1 27 := ⟨by decide +kernel, rfl⟩
theorem dX7_street_27 : St mX7_street 27 (.aload_n 0) 1 28 := ⟨by decide +kernel, rfl⟩
theorem dX7_street_28 : St mX7_street 28 (.getfield 7) 3 31 := ⟨by decide +kernel, rfl⟩
theorem dX7_street_31 : St mX7_street 31 (.iconst 0) 1 32 := ⟨by decide +kernel, rfl⟩
theorem dX7_street_32 : St mX7_street 32 (.sipush 223) 3 35 := ⟨by decide +kernel, rfl⟩
theorem dX7_street_35 : St mX7_street 35 (.invokestatic 139) 3 38 := ⟨by decide +kernel, rfl⟩
theorem dX7_street_38 : St mX7_street 38 (.aload_n 0) 1 39 := ⟨by decide +kernel, rfl⟩
theorem dX7_street_39 : St mX7_street 39 (.getfield 7) 3 42 := ⟨by decide +kernel, rfl⟩
theorem dX7_street_42 : St mX7_street 42 (.iconst 0) 1 43 := ⟨by decide +kernel, rfl⟩
theorem dX7_street_43 : St mX7_street 43 (.iaload) 1 44 := ⟨by decide +kernel, rfl⟩
theorem dX7_street_44 : St mX7_street 44 (.ireturn) 1 45 := ⟨by decide +kernel, rfl⟩
theorem dX7_count_0 : St mX7_count 0 (.iload_n 1) 1 1 := ⟨by decide +kernel, rfl⟩
theorem dX7_count_1 : St mX7_count 1 (.tableswitch 132 0 9 #[55, 62, 69, 76, 83, 91, 102, 114, 119, 124]) 55 56 := ⟨by decide +kernel, rfl⟩
theorem dX7_count_56 : St mX7_count 56 (.aload_n 0) 1 57 := ⟨by decide +kernel, rfl⟩
theorem dX7_count_57 : St mX7_count 57 (.getfield 7) 3 60 := ⟨by decide +kernel, rfl⟩
theorem dX7_count_60 : St mX7_count 60 (.iconst 0) 1 61 := ⟨by decide +kernel, rfl⟩
theorem dX7_count_61 : St mX7_count 61 (.iaload) 1 62 := ⟨by decide +kernel, rfl⟩
theorem dX7_count_62 : St mX7_count 62 (.ireturn) 1 63 := ⟨by decide +kernel, rfl⟩
theorem dX7_count_63 : St mX7_count 63 (.aload_n 0) 1 64 := ⟨by decide +kernel, rfl⟩
theorem dX7_count_64 : St mX7_count 64 (.getfield 7) 3 67 := ⟨by decide +kernel, rfl⟩
theorem dX7_count_67 : St mX7_count 67 (.iconst 3) 1 68 := ⟨by decide +kernel, rfl⟩
theorem dX7_count_68 : St mX7_count 68 (.iaload) 1 69 := ⟨by decide +kernel, rfl⟩
theorem dX7_count_69 : St mX7_count 69 (.ireturn) 1 70 := ⟨by decide +kernel, rfl⟩
theorem dX7_count_70 : St mX7_count 70 (.aload_n 0) 1 71 := ⟨by decide +kernel, rfl⟩
theorem dX7_count_71 : St mX7_count 71 (.getfield 7) 3 74 := ⟨by decide +kernel, rfl⟩
theorem dX7_count_74 : St mX7_count 74 (.iconst 1) 1 75 := ⟨by decide +kernel, rfl⟩
theorem dX7_count_75 : St mX7_count 75 (.iaload) 1 76 := ⟨by decide +kernel, rfl⟩
theorem dX7_count_76 : St mX7_count 76 (.ireturn) 1 77 := ⟨by decide +kernel, rfl⟩
theorem dX7_count_77 : St mX7_count 77 (.aload_n 0) 1 78 := ⟨by decide +kernel, rfl⟩
theorem dX7_count_78 : St mX7_count 78 (.getfield 7) 3 81 := ⟨by decide +kernel, rfl⟩
theorem dX7_count_81 : St mX7_count 81 (.iconst 2) 1 82 := ⟨by decide +kernel, rfl⟩
theorem dX7_count_82 : St mX7_count 82 (.iaload) 1 83 := ⟨by decide +kernel, rfl⟩
theorem dX7_count_83 : St mX7_count 83 (.ireturn) 1 84 := ⟨by decide +kernel, rfl⟩
theorem dX7_count_84 : St mX7_count 84 (.aload_n 0) 1 85 := ⟨by decide +kernel, rfl⟩
theorem dX7_count_85 : St mX7_count 85 (.getfield 7) 3 88 := ⟨by decide +kernel, rfl⟩
theorem dX7_count_88 : St mX7_count 88 (.invokestatic 143) 3 91 := ⟨by decide +kernel, rfl⟩
theorem dX7_count_91 : St mX7_count 91 (.ireturn) 1 92 := ⟨by decide +kernel, rfl⟩
theorem dX7_count_92 : St mX7_count 92 (.aload_n 0) 1 93 := ⟨by decide +kernel, rfl⟩
theorem dX7_count_93 : St mX7_count 93 (.getfield 7) 3 96 := ⟨by decide +kernel, rfl⟩
theorem dX7_count_96 : St mX7_count 96 (.bipush 27) 2 98 := ⟨by decide +kernel, rfl⟩
theorem dX7_count_98 : St mX7_count 98 (.iconst 5) 1 99 := ⟨by decide +kernel, rfl⟩
theorem dX7_count_99 : St mX7_count 99 (.invokestatic 63) 3 102 := ⟨by decide +kernel, rfl⟩
theorem dX7_count_102 : St mX7_count 102 (.ireturn) 1 103 := ⟨by decide +kernel, rfl⟩
theorem dX7_count_103 : St mX7_count 103 (.aload_n 0) 1 104 := ⟨by decide +kernel, rfl⟩
theorem dX7_count_104 : St mX7_count 104 (.getfield 7) 3 107 := ⟨by decide +kernel, rfl⟩
theorem dX7_count_107 : St mX7_count 107 (.bipush 16) 2 109 := ⟨by decide +kernel, rfl⟩
theorem dX7_count_109 : St mX7_count 109 (.bipush 6) 2 111 := ⟨by decide +kernel, rfl⟩
theorem dX7_count_111 : St mX7_count 111 (.invokestatic 63) 3 114 := ⟨by decide +kernel, rfl⟩
theorem dX7_count_114 : St mX7_count 114 (.ireturn) 1 115 := ⟨by decide +kernel, rfl⟩
theorem dX7_count_115 : St mX7_count 115 (.aload_n 0) 1 116 := ⟨by decide +kernel, rfl⟩
theorem dX7_count_116 : St mX7_count 116 (.invokevirtual 147) 3 119 := ⟨by decide +kernel, rfl⟩
theorem dX7_count_119 : St mX7_count 119 (.ireturn) 1 120 := ⟨by decide +kernel, rfl⟩
theorem dX7_count_120 : St mX7_count 120 (.aload_n 0) 1 121 := ⟨by decide +kernel, rfl⟩
theorem dX7_count_121 : St mX7_count 121 (.invokevirtual 150) 3 124 := ⟨by decide +kernel, rfl⟩
theorem dX7_count_124 : St mX7_count 124 (.ireturn) 1 125 := ⟨by decide +kernel, rfl⟩
theorem dX7_count_125 : St mX7_count 125 (.aload_n 0) 1 126 := ⟨by decide +kernel, rfl⟩
theorem dX7_count_126 : St mX7_count 126 (.getfield 7) 3 129 := ⟨by decide +kernel, rfl⟩
theorem dX7_count_129 : St mX7_count 129 (.bipush 38) 2 131 := ⟨by decide +kernel, rfl⟩
theorem dX7_count_131 : St mX7_count 131 (.iaload) 1 132 := ⟨by decide +kernel, rfl⟩
theorem dX7_count_132 : St mX7_count 132 (.ireturn) 1 133 := ⟨by decide +kernel, rfl⟩
theorem dX7_count_133 : St mX7_count 133 (.iconst (-1)) 1 134 := ⟨by decide +kernel, rfl⟩
theorem dX7_count_134 : St mX7_count 134 (.ireturn) 1 135 := ⟨by decide +kernel, rfl⟩
theorem dX7_remember_0 : St mX7_remember 0 (.aload_n 0) 1 1 := ⟨by decide +kernel, rfl⟩
theorem dX7_remember_1 : St mX7_remember 1 (.getfield 7) 3 4 := ⟨by decide +kernel, rfl⟩
theorem dX7_remember_4 : St mX7_remember 4 (.bipush 38) 2 6 := ⟨by decide +kernel, rfl⟩
theorem dX7_remember_6 : St mX7_remember 6 (.iaload) 1 7 := ⟨by decide +kernel, rfl⟩
theorem dX7_remember_7 : St mX7_remember 7 (.bipush 8) 2 9 := ⟨by decide +kernel, rfl⟩
theorem dX7_remember_9 : St mX7_remember 9 (.if_icmp .ne 50) 3 12 := ⟨by decide +kernel, rfl⟩
theorem dX7_remember_12 : St mX7_remember 12 (.iconst 0) 1 13 := ⟨by decide +kernel, rfl⟩
theorem dX7_remember_13 : St mX7_remember 13 (.istore_n 1) 1 14 := ⟨by decide +kernel, rfl⟩
theorem dX7_remember_14 : St mX7_remember 14 (.iload_n 1) 1 15 := ⟨by decide +kernel, rfl⟩
theorem dX7_remember_15 : St mX7_remember 15 (.sipush 161) 3 18 := ⟨by decide +kernel, rfl⟩
theorem dX7_remember_18 : St mX7_remember 18 (.if_icmp .ge 30) 3 21 := ⟨by decide +kernel, rfl⟩
theorem dX7_remember_21 : St mX7_remember 21 (.aload_n 0) 1 22 := ⟨by decide +kernel, rfl⟩
theorem dX7_remember_22 : St mX7_remember 22 (.getfield 7) 3 25 := ⟨by decide +kernel, rfl⟩
theorem dX7_remember_25 : St mX7_remember 25 (.bipush 39) 2 27 := ⟨by decide +kernel, rfl⟩
theorem dX7_remember_27 : St mX7_remember 27 (.iload_n 1) 1 28 := ⟨by decide +kernel, rfl⟩
theorem dX7_remember_28 : St mX7_remember 28 (.iadd) 1 29 := ⟨by decide +kernel, rfl⟩
theorem dX7_remember_29 : St mX7_remember 29 (.aload_n 0) 1 30 := ⟨by decide +kernel, rfl⟩
theorem dX7_remember_30 : St mX7_remember 30 (.getfield 7) 3 33 := ⟨by decide +kernel, rfl⟩
theorem dX7_remember_33 : St mX7_remember 33 (.bipush 39) 2 35 := ⟨by decide +kernel, rfl⟩
theorem dX7_remember_35 : St mX7_remember 35 (.iload_n 1) 1 36 := ⟨by decide +kernel, rfl⟩
theorem dX7_remember_36 : St mX7_remember 36 (.iadd) 1 37 := ⟨by decide +kernel, rfl⟩
theorem dX7_remember_37 : St mX7_remember 37 (.bipush 23) 2 39 := ⟨by decide +kernel, rfl⟩
theorem dX7_remember_39 : St mX7_remember 39 (.iadd) 1 40 := ⟨by decide +kernel, rfl⟩
theorem dX7_remember_40 : St mX7_remember 40 (.iaload) 1 41 := ⟨by decide +kernel, rfl⟩
theorem dX7_remember_41 : St mX7_remember 41 (.iastore) 1 42 := ⟨by decide +kernel, rfl⟩
theorem dX7_remember_42 : St mX7_remember 42 (.iinc 1 1) 3 45 := ⟨by decide +kernel, rfl⟩
theorem dX7_remember_45 : St mX7_remember 45 (.goto (-31)) 3 48 := ⟨by decide +kernel, rfl⟩
theorem dX7_remember_48 : St mX7_remember 48 (.aload_n 0) 1 49 := ⟨by decide +kernel, rfl⟩
theorem dX7_remember_49 : St mX7_remember 49 (.getfield 7) 3 52 := ⟨by decide +kernel, rfl⟩
theorem dX7_remember_52 : St mX7_remember 52 (.bipush 38) 2 54 := ⟨by decide +kernel, rfl⟩
theorem dX7_remember_54 : St mX7_remember 54 (.dup2) 1 55 := ⟨by decide +kernel, rfl⟩
theorem dX7_remember_55 : St mX7_remember 55 (.iaload) 1 56 := ⟨by decide +kernel, rfl⟩
theorem dX7_remember_56 : St mX7_remember 56 (.iconst 1) 1 57 := ⟨by decide +kernel, rfl⟩
theorem dX7_remember_57 : St mX7_remember 57 (.isub) 1 58 := ⟨by decide +kernel, rfl⟩
theorem dX7_remember_58 : St mX7_remember 58 (.iastore) 1 59 := ⟨by decide +kernel, rfl⟩
theorem dX7_remember_59 : St mX7_remember 59 (.bipush 39) 2 61 := ⟨by decide +kernel, rfl⟩
theorem dX7_remember_61 : St mX7_remember 61 (.bipush 23) 2 63 := ⟨by decide +kernel, rfl⟩
theorem dX7_remember_63 : St mX7_remember 63 (.aload_n 0) 1 64 := ⟨by decide +kernel, rfl⟩
theorem dX7_remember_64 : St mX7_remember 64 (.getfield 7) 3 67 := ⟨by decide +kernel, rfl⟩
theorem dX7_remember_67 : St mX7_remember 67 (.bipush 38) 2 69 := ⟨by decide +kernel, rfl⟩
theorem dX7_remember_69 : St mX7_remember 69 (.iaload) 1 70 := ⟨by decide +kernel, rfl⟩
theorem dX7_remember_70 : St mX7_remember 70 (.imul) 1 71 := ⟨by decide +kernel, rfl⟩
theorem dX7_remember_71 : St mX7_remember 71 (.iadd) 1 72 := ⟨by decide +kernel, rfl⟩
theorem dX7_remember_72 : St mX7_remember 72 (.istore_n 1) 1 73 := ⟨by decide +kernel, rfl⟩
theorem dX7_remember_73 : St mX7_remember 73 (.aload_n 0) 1 74 := ⟨by decide +kernel, rfl⟩
theorem dX7_remember_74 : St mX7_remember 74 (.getfield 7) 3 77 := ⟨by decide +kernel, rfl⟩
theorem dX7_remember_77 : St mX7_remember 77 (.bipush 16) 2 79 := ⟨by decide +kernel, rfl⟩
theorem dX7_remember_79 : St mX7_remember 79 (.aload_n 0) 1 80 := ⟨by decide +kernel, rfl⟩
theorem dX7_remember_80 : St mX7_remember 80 (.getfield 7) 3 83 := ⟨by decide +kernel, rfl⟩
theorem dX7_remember_83 : St mX7_remember 83 (.iload_n 1) 1 84 := ⟨by decide +kernel, rfl⟩
theorem dX7_remember_84 : St mX7_remember 84 (.bipush 22) 2 86 := ⟨by decide +kernel, rfl⟩
theorem dX7_remember_86 : St mX7_remember 86 (.invokestatic 139) 3 89 := ⟨by decide +kernel, rfl⟩
theorem dX7_remember_89 : St mX7_remember 89 (.aload_n 0) 1 90 := ⟨by decide +kernel, rfl⟩
theorem dX7_remember_90 : St mX7_remember 90 (.getfield 7) 3 93 := ⟨by decide +kernel, rfl⟩
theorem dX7_remember_93 : St mX7_remember 93 (.iload_n 1) 1 94 := ⟨by decide +kernel, rfl⟩
theorem dX7_remember_94 : St mX7_remember 94 (.bipush 22) 2 96 := ⟨by decide +kernel, rfl⟩
theorem dX7_remember_96 : St mX7_remember 96 (.iadd) 1 97 := ⟨by decide +kernel, rfl⟩
theorem dX7_remember_97 : St mX7_remember 97 (.aload_n 0) 1 98 := ⟨by decide +kernel, rfl⟩
theorem dX7_remember_98 : St mX7_remember 98 (.getfield 7) 3 101 := ⟨by decide +kernel, rfl⟩
theorem dX7_remember_101 : St mX7_remember 101 (.iconst 3) 1 102 := ⟨by decide +kernel, rfl⟩
theorem dX7_remember_102 : St mX7_remember 102 (.iaload) 1 103 := ⟨by decide +kernel, rfl⟩
theorem dX7_remember_103 : St mX7_remember 103 (.iastore) 1 104 := ⟨by decide +kernel, rfl⟩
theorem dX7_remember_104 : St mX7_remember 104 (.aload_n 0) 1 105 := ⟨by decide +kernel, rfl⟩
theorem dX7_remember_105 : St mX7_remember 105 (.getfield 7) 3 108 := ⟨by decide +kernel, rfl⟩
theorem dX7_remember_108 : St mX7_remember 108 (.bipush 38) 2 110 := ⟨by decide +kernel, rfl⟩
theorem dX7_remember_110 : St mX7_remember 110 (.dup2) 1 111 := ⟨by decide +kernel, rfl⟩
theorem dX7_remember_111 : St mX7_remember 111 (.iaload) 1 112 := ⟨by decide +kernel, rfl⟩
theorem dX7_remember_112 : St mX7_remember 112 (.iconst 1) 1 113 := ⟨by decide +kernel, rfl⟩
theorem dX7_remember_113 : St mX7_remember 113 (.iadd) 1 114 := ⟨by decide +kernel, rfl⟩
theorem dX7_remember_114 : St mX7_remember 114 (.iastore) 1 115 := ⟨by decide +kernel, rfl⟩
theorem dX7_remember_115 : St mX7_remember 115 (.return_) 1 116 := ⟨by decide +kernel, rfl⟩
theorem dX7_weeks_0 : St mX7_weeks 0 (.iload_n 1) 1 1 := ⟨by decide +kernel, rfl⟩
theorem dX7_weeks_1 : St mX7_weeks 1 (.i2l) 1 2 := ⟨by decide +kernel, rfl⟩
theorem dX7_weeks_2 : St mX7_weeks 2 (.lconst 1) 1 3 := ⟨by decide +kernel, rfl⟩
theorem dX7_weeks_3 : St mX7_weeks 3 (.ldc2_w 94) 3 6 := ⟨by decide +kernel, rfl⟩
theorem dX7_weeks_6 : St mX7_weeks 6 (.invokestatic 43) 3 9 := ⟨by decide +kernel, rfl⟩
theorem dX7_weeks_9 : St mX7_weeks 9 (.ifCond .ne 5) 3 12 := ⟨by decide +kernel, rfl⟩
theorem dX7_weeks_12 : St mX7_weeks 12 (.iconst (-1)) 1 13 := ⟨by decide +kernel, rfl⟩
theorem dX7_weeks_13 : St mX7_weeks 13 (.ireturn) 1 14 := ⟨by decide +kernel, rfl⟩
theorem dX7_weeks_14 : St mX7_weeks 14 (.aload_n 0) 1 15 := ⟨by decide +kernel, rfl⟩
theorem dX7_weeks_15 : St mX7_weeks 15 (.getfield 7) 3 18 := ⟨by decide +kernel, rfl⟩
theorem dX7_weeks_18 : St mX7_weeks 18 (.iconst 3) 1 19 := ⟨by decide +kernel, rfl⟩
theorem dX7_weeks_19 : St mX7_weeks 19 (.iaload) 1 20 := ⟨by decide +kernel, rfl⟩
theorem dX7_weeks_20 : St mX7_weeks 20 (.iload_n 1) 1 21 := ⟨by decide +kernel, rfl⟩
theorem dX7_weeks_21 : St mX7_weeks 21 (.iadd) 1 22 := ⟨by decide +kernel, rfl⟩
theorem dX7_weeks_22 : St mX7_weeks 22 (.sipush 9999) 3 25 := ⟨by decide +kernel, rfl⟩
theorem dX7_weeks_25 : St mX7_weeks 25 (.if_icmp .le 6) 3 28 := ⟨by decide +kernel, rfl⟩
theorem dX7_weeks_28 : St mX7_weeks 28 (.bipush (-3)) 2 30 := ⟨by decide +kernel, rfl⟩
theorem dX7_weeks_30 : St mX7_weeks 30 (.ireturn) 1 31 := ⟨by decide +kernel, rfl⟩
theorem dX7_weeks_31 : St mX7_weeks 31 (.iconst 0) 1 32 := ⟨by decide +kernel, rfl⟩
theorem dX7_weeks_32 : St mX7_weeks 32 (.istore_n 2) 1 33 := ⟨by decide +kernel, rfl⟩
theorem dX7_weeks_33 : St mX7_weeks 33 (.iload_n 2) 1 34 := ⟨by decide +kernel, rfl⟩
theorem dX7_weeks_34 : St mX7_weeks 34 (.iload_n 1) 1 35 := ⟨by decide +kernel, rfl⟩
theorem dX7_weeks_35 : St mX7_weeks 35 (.if_icmp .ge 21) 3 38 := ⟨by decide +kernel, rfl⟩
theorem dX7_weeks_38 : St mX7_weeks 38 (.aload_n 0) 1 39 := ⟨by decide +kernel, rfl⟩
theorem dX7_weeks_39 : St mX7_weeks 39 (.invokevirtual 153) 3 42 := ⟨by decide +kernel, rfl⟩
theorem dX7_weeks_42 : St mX7_weeks 42 (.aload_n 0) 1 43 := ⟨by decide +kernel, rfl⟩
theorem dX7_weeks_43 : St mX7_weeks 43 (.getfield 7) 3 46 := ⟨by decide +kernel, rfl⟩
theorem dX7_weeks_46 : St mX7_weeks 46 (.invokestatic 156) 3 49 := ⟨by decide +kernel, rfl⟩
theorem dX7_weeks_49 : St mX7_weeks 49 (.istore_n 3) 1 50 := ⟨by decide +kernel, rfl⟩
theorem dX7_weeks_50 : St mX7_weeks 50 (.iinc 2 1) 3 53 := ⟨by decide +kernel, rfl⟩
theorem dX7_weeks_53 : St mX7_weeks 53 (.goto (-20)) 3 56 := ⟨by decide +kernel, rfl⟩
theorem dX7_weeks_56 : St mX7_weeks 56 (.aload_n 0) 1 57 := ⟨by decide +kernel, rfl⟩
theorem dX7_weeks_57 : St mX7_weeks 57 (.getfield 7) 3 60 := ⟨by decide +kernel, rfl⟩
theorem dX7_weeks_60 : St mX7_weeks 60 (.invokestatic 143) 3 63 := ⟨by decide +kernel, rfl⟩
theorem dX7_weeks_63 : St mX7_weeks 63 (.ireturn) 1 64 := ⟨by decide +kernel, rfl⟩
theorem dX7_sorries0_0 : St mX7_sorries0 0 (.aload_n 0) 1 1 := ⟨by decide +kernel, rfl⟩
theorem dX7_sorries0_1 : St mX7_sorries0 1 (.bipush 27) 2 3 := ⟨by decide +kernel, rfl⟩
theorem dX7_sorries0_3 : St mX7_sorries0 3 (.iload_n 1) 1 4 := ⟨by decide +kernel, rfl⟩
theorem dX7_sorries0_4 : St mX7_sorries0 4 (.iadd) 1 5 := ⟨by decide +kernel, rfl⟩
theorem dX7_sorries0_5 : St mX7_sorries0 5 (.dup2) 1 6 := ⟨by decide +kernel, rfl⟩
theorem dX7_sorries0_6 : St mX7_sorries0 6 (.iaload) 1 7 := ⟨by decide +kernel, rfl⟩
theorem dX7_sorries0_7 : St mX7_sorries0 7 (.aload_n 0) 1 8 := ⟨by decide +kernel, rfl⟩
theorem dX7_sorries0_8 : St mX7_sorries0 8 (.bipush 27) 2 10 := ⟨by decide +kernel, rfl⟩
theorem dX7_sorries0_10 : St mX7_sorries0 10 (.iload_n 1) 1 11 := ⟨by decide +kernel, rfl⟩
theorem dX7_sorries0_11 : St mX7_sorries0 11 (.iadd) 1 12 := ⟨by decide +kernel, rfl⟩
theorem dX7_sorries0_12 : St mX7_sorries0 12 (.iaload) 1 13 := ⟨by decide +kernel, rfl⟩
theorem dX7_sorries0_13 : St mX7_sorries0 13 (.iconst 3) 1 14 := ⟨by decide +kernel, rfl⟩
theorem dX7_sorries0_14 : St mX7_sorries0 14 (.idiv) 1 15 := ⟨by decide +kernel, rfl⟩
theorem dX7_sorries0_15 : St mX7_sorries0 15 (.isub) 1 16 := ⟨by decide +kernel, rfl⟩
theorem dX7_sorries0_16 : St mX7_sorries0 16 (.iastore) 1 17 := ⟨by decide +kernel, rfl⟩
theorem dX7_sorries0_17 : St mX7_sorries0 17 (.return_) 1 18 := ⟨by decide +kernel, rfl⟩
theorem dX7_sorry_0 : St mX7_sorry 0 (.aload_n 0) 1 1 := ⟨by decide +kernel, rfl⟩
theorem dX7_sorry_1 : St mX7_sorry 1 (.iload_n 1) 1 2 := ⟨by decide +kernel, rfl⟩
theorem dX7_sorry_2 : St mX7_sorry 2 (.invokevirtual 83) 3 5 := ⟨by decide +kernel, rfl⟩
theorem dX7_sorry_5 : St mX7_sorry 5 (.ifCond .ne 5) 3 8 := ⟨by decide +kernel, rfl⟩
theorem dX7_sorry_8 : St mX7_sorry 8 (.iconst (-1)) 1 9 := ⟨by decide +kernel, rfl⟩
theorem dX7_sorry_9 : St mX7_sorry 9 (.ireturn) 1 10 := ⟨by decide +kernel, rfl⟩
theorem dX7_sorry_10 : St mX7_sorry 10 (.aload_n 0) 1 11 := ⟨by decide +kernel, rfl⟩
theorem dX7_sorry_11 : St mX7_sorry 11 (.iload_n 1) 1 12 := ⟨by decide +kernel, rfl⟩
theorem dX7_sorry_12 : St mX7_sorry 12 (.invokevirtual 67) 3 15 := ⟨by decide +kernel, rfl⟩
theorem dX7_sorry_15 : St mX7_sorry 15 (.ifCond .le 6) 3 18 := ⟨by decide +kernel, rfl⟩
theorem dX7_sorry_18 : St mX7_sorry 18 (.bipush (-2)) 2 20 := ⟨by decide +kernel, rfl⟩
theorem dX7_sorry_20 : St mX7_sorry 20 (.ireturn) 1 21 := ⟨by decide +kernel, rfl⟩
theorem dX7_sorry_21 : St mX7_sorry 21 (.aload_n 0) 1 22 := ⟨by decide +kernel, rfl⟩
theorem dX7_sorry_22 : St mX7_sorry 22 (.invokevirtual 153) 3 25 := ⟨by decide +kernel, rfl⟩
theorem dX7_sorry_25 : St mX7_sorry 25 (.aload_n 0) 1 26 := ⟨by decide +kernel, rfl⟩
theorem dX7_sorry_26 : St mX7_sorry 26 (.getfield 7) 3 29 := ⟨by decide +kernel, rfl⟩
theorem dX7_sorry_29 : St mX7_sorry 29 (.iload_n 1) 1 30 := ⟨by decide +kernel, rfl⟩
theorem dX7_sorry_30 : St mX7_sorry 30 (.invokestatic 159) 3 33 := ⟨by decide +kernel, rfl⟩
theorem dX7_sorry_33 : St mX7_sorry 33 (.aload_n 0) 1 34 := ⟨by decide +kernel, rfl⟩
theorem dX7_sorry_34 : St mX7_sorry 34 (.getfield 7) 3 37 := ⟨by decide +kernel, rfl⟩
theorem dX7_sorry_37 : St mX7_sorry 37 (.bipush 32) 2 39 := ⟨by decide +kernel, rfl⟩
theorem dX7_sorry_39 : St mX7_sorry 39 (.iload_n 1) 1 40 := ⟨by decide +kernel, rfl⟩
theorem dX7_sorry_40 : St mX7_sorry 40 (.iadd) 1 41 := ⟨by decide +kernel, rfl⟩
theorem dX7_sorry_41 : St mX7_sorry 41 (.aload_n 0) 1 42 := ⟨by decide +kernel, rfl⟩
theorem dX7_sorry_42 : St mX7_sorry 42 (.getfield 7) 3 45 := ⟨by decide +kernel, rfl⟩
theorem dX7_sorry_45 : St mX7_sorry 45 (.iconst 3) 1 46 := ⟨by decide +kernel, rfl⟩
theorem dX7_sorry_46 : St mX7_sorry 46 (.iaload) 1 47 := ⟨by decide +kernel, rfl⟩
theorem dX7_sorry_47 : St mX7_sorry 47 (.iastore) 1 48 := ⟨by decide +kernel, rfl⟩
theorem dX7_sorry_48 : St mX7_sorry 48 (.aload_n 0) 1 49 := ⟨by decide +kernel, rfl⟩
theorem dX7_sorry_49 : St mX7_sorry 49 (.getfield 7) 3 52 := ⟨by decide +kernel, rfl⟩
theorem dX7_sorry_52 : St mX7_sorry 52 (.bipush 27) 2 54 := ⟨by decide +kernel, rfl⟩
theorem dX7_sorry_54 : St mX7_sorry 54 (.iload_n 1) 1 55 := ⟨by decide +kernel, rfl⟩
theorem dX7_sorry_55 : St mX7_sorry 55 (.iadd) 1 56 := ⟨by decide +kernel, rfl⟩
theorem dX7_sorry_56 : St mX7_sorry 56 (.iaload) 1 57 := ⟨by decide +kernel, rfl⟩
theorem dX7_sorry_57 : St mX7_sorry 57 (.ireturn) 1 58 := ⟨by decide +kernel, rfl⟩
theorem dX7_root_0 : St mX7_root 0 (.iconst 0) 1 1 := ⟨by decide +kernel, rfl⟩
theorem dX7_root_1 : St mX7_root 1 (.istore_n 1) 1 2 := ⟨by decide +kernel, rfl⟩
theorem dX7_root_2 : St mX7_root 2 (.iload_n 1) 1 3 := ⟨by decide +kernel, rfl⟩
theorem dX7_root_3 : St mX7_root 3 (.iconst 1) 1 4 := ⟨by decide +kernel, rfl⟩
theorem dX7_root_4 : St mX7_root 4 (.iadd) 1 5 := ⟨by decide +kernel, rfl⟩
theorem dX7_root_5 : St mX7_root 5 (.iload_n 1) 1 6 := ⟨by decide +kernel, rfl⟩
theorem dX7_root_6 : St mX7_root 6 (.iconst 1) 1 7 := ⟨by decide +kernel, rfl⟩
theorem dX7_root_7 : St mX7_root 7 (.iadd) 1 8 := ⟨by decide +kernel, rfl⟩
theorem dX7_root_8 : St mX7_root 8 (.imul) 1 9 := ⟨by decide +kernel, rfl⟩
theorem dX7_root_9 : St mX7_root 9 (.iload_n 0) 1 10 := ⟨by decide +kernel, rfl⟩
theorem dX7_root_10 : St mX7_root 10 (.if_icmp .gt 9) 3 13 := ⟨by decide +kernel, rfl⟩
theorem dX7_root_13 : St mX7_root 13 (.iinc 1 1) 3 16 := ⟨by decide +kernel, rfl⟩
theorem dX7_root_16 : St mX7_root 16 (.goto (-14)) 3 19 := ⟨by decide +kernel, rfl⟩
theorem dX7_root_19 : St mX7_root 19 (.iload_n 1) 1 20 := ⟨by decide +kernel, rfl⟩
theorem dX7_root_20 : St mX7_root 20 (.ireturn) 1 21 := ⟨by decide +kernel, rfl⟩
theorem dX7_gift_0 : St mX7_gift 0 (.aload_n 0) 1 1 := ⟨by decide +kernel, rfl⟩
theorem dX7_gift_1 : St mX7_gift 1 (.iload_n 1) 1 2 := ⟨by decide +kernel, rfl⟩
theorem dX7_gift_2 : St mX7_gift 2 (.invokevirtual 83) 3 5 := ⟨by decide +kernel, rfl⟩
theorem dX7_gift_5 : St mX7_gift 5 (.ifCond .eq 22) 3 8 := ⟨by decide +kernel, rfl⟩
theorem dX7_gift_8 : St mX7_gift 8 (.iload_n 2) 1 9 := ⟨by decide +kernel, rfl⟩
theorem dX7_gift_9 : St mX7_gift 9 (.invokestatic 163) 3 12 := ⟨by decide +kernel, rfl⟩
theorem dX7_gift_12 : St mX7_gift 12 (.ifCond .eq 15) 3 15 := ⟨by decide +kernel, rfl⟩
theorem dX7_gift_15 : St mX7_gift 15 (.iload_n 3) 1 16 := ⟨by decide +kernel, rfl⟩
theorem dX7_gift_16 : St mX7_gift 16 (.i2l) 1 17 := ⟨by decide +kernel, rfl⟩
theorem dX7_gift_17 : St mX7_gift 17 (.lconst 1) 1 18 := ⟨by decide +kernel, rfl⟩
theorem dX7_gift_18 : St mX7_gift 18 (.ldc2_w 166) 3 21 := ⟨by decide +kernel, rfl⟩
theorem dX7_gift_21 : St mX7_gift 21 (.invokestatic 43) 3 24 := ⟨by decide +kernel, rfl⟩
theorem dX7_gift_24 : St mX7_gift 24 (.ifCond .ne 5) 3 27 := ⟨by decide +kernel, rfl⟩
theorem dX7_gift_27 : St mX7_gift 27 (.iconst (-1)) 1 28 := ⟨by decide +kernel, rfl⟩
theorem dX7_gift_28 : St mX7_gift 28 (.ireturn) 1 29 := ⟨by decide +kernel, rfl⟩
theorem dX7_gift_29 : St mX7_gift 29 (.aload_n 0) 1 30 := ⟨by decide +kernel, rfl⟩
theorem dX7_gift_30 : St mX7_gift 30 (.invokevirtual 153) 3 33 := ⟨by decide +kernel, rfl⟩
theorem dX7_gift_33 : St mX7_gift 33 (.aload_n 0) 1 34 := ⟨by decide +kernel, rfl⟩
theorem dX7_gift_34 : St mX7_gift 34 (.getfield 7) 3 37 := ⟨by decide +kernel, rfl⟩
theorem dX7_gift_37 : St mX7_gift 37 (.bipush 16) 2 39 := ⟨by decide +kernel, rfl⟩
theorem dX7_gift_39 : St mX7_gift 39 (.iload_n 1) 1 40 := ⟨by decide +kernel, rfl⟩
theorem dX7_gift_40 : St mX7_gift 40 (.iadd) 1 41 := ⟨by decide +kernel, rfl⟩
theorem dX7_gift_41 : St mX7_gift 41 (.iload_n 2) 1 42 := ⟨by decide +kernel, rfl⟩
theorem dX7_gift_42 : St mX7_gift 42 (.iadd) 1 43 := ⟨by decide +kernel, rfl⟩
theorem dX7_gift_43 : St mX7_gift 43 (.dup2) 1 44 := ⟨by decide +kernel, rfl⟩
theorem dX7_gift_44 : St mX7_gift 44 (.iaload) 1 45 := ⟨by decide +kernel, rfl⟩
theorem dX7_gift_45 : St mX7_gift 45 (.iload_n 3) 1 46 := ⟨by decide +kernel, rfl⟩
theorem dX7_gift_46 : St mX7_gift 46 (.iadd) 1 47 := ⟨by decide +kernel, rfl⟩
theorem dX7_gift_47 : St mX7_gift 47 (.iastore) 1 48 := ⟨by decide +kernel, rfl⟩
theorem dX7_gift_48 : St mX7_gift 48 (.aload_n 0) 1 49 := ⟨by decide +kernel, rfl⟩
theorem dX7_gift_49 : St mX7_gift 49 (.getfield 7) 3 52 := ⟨by decide +kernel, rfl⟩
theorem dX7_gift_52 : St mX7_gift 52 (.bipush 27) 2 54 := ⟨by decide +kernel, rfl⟩
theorem dX7_gift_54 : St mX7_gift 54 (.iload_n 1) 1 55 := ⟨by decide +kernel, rfl⟩
theorem dX7_gift_55 : St mX7_gift 55 (.iadd) 1 56 := ⟨by decide +kernel, rfl⟩
theorem dX7_gift_56 : St mX7_gift 56 (.aload_n 0) 1 57 := ⟨by decide +kernel, rfl⟩
theorem dX7_gift_57 : St mX7_gift 57 (.getfield 7) 3 60 := ⟨by decide +kernel, rfl⟩
theorem dX7_gift_60 : St mX7_gift 60 (.bipush 27) 2 62 := ⟨by decide +kernel, rfl⟩
theorem dX7_gift_62 : St mX7_gift 62 (.iload_n 1) 1 63 := ⟨by decide +kernel, rfl⟩
theorem dX7_gift_63 : St mX7_gift 63 (.iadd) 1 64 := ⟨by decide +kernel, rfl⟩
theorem dX7_gift_64 : St mX7_gift 64 (.iaload) 1 65 := ⟨by decide +kernel, rfl⟩
theorem dX7_gift_65 : St mX7_gift 65 (.iload_n 3) 1 66 := ⟨by decide +kernel, rfl⟩
theorem dX7_gift_66 : St mX7_gift 66 (.invokestatic 168) 3 69 := ⟨by decide +kernel, rfl⟩
theorem dX7_gift_69 : St mX7_gift 69 (.isub) 1 70 := ⟨by decide +kernel, rfl⟩
theorem dX7_gift_70 : St mX7_gift 70 (.invokestatic 55) 3 73 := ⟨by decide +kernel, rfl⟩
theorem dX7_gift_73 : St mX7_gift 73 (.iastore) 1 74 := ⟨by decide +kernel, rfl⟩
theorem dX7_gift_74 : St mX7_gift 74 (.aload_n 0) 1 75 := ⟨by decide +kernel, rfl⟩
theorem dX7_gift_75 : St mX7_gift 75 (.getfield 7) 3 78 := ⟨by decide +kernel, rfl⟩
theorem dX7_gift_78 : St mX7_gift 78 (.bipush 27) 2 80 := ⟨by decide +kernel, rfl⟩
theorem dX7_gift_80 : St mX7_gift 80 (.iload_n 1) 1 81 := ⟨by decide +kernel, rfl⟩
theorem dX7_gift_81 : St mX7_gift 81 (.iadd) 1 82 := ⟨by decide +kernel, rfl⟩
theorem dX7_gift_82 : St mX7_gift 82 (.iaload) 1 83 := ⟨by decide +kernel, rfl⟩
theorem dX7_gift_83 : St mX7_gift 83 (.ireturn) 1 84 := ⟨by decide +kernel, rfl⟩
theorem dX7_gossip_0 : St mX7_gossip 0 (.aload_n 0) 1 1 := ⟨by decide +kernel, rfl⟩
theorem dX7_gossip_1 : St mX7_gossip 1 (.iload_n 1) 1 2 := ⟨by decide +kernel, rfl⟩
theorem dX7_gossip_2 : St mX7_gossip 2 (.invokevirtual 83) 3 5 := ⟨by decide +kernel, rfl⟩
theorem dX7_gossip_5 : St mX7_gossip 5 (.ifCond .eq 15) 3 8 := ⟨by decide +kernel, rfl⟩
theorem dX7_gossip_8 : St mX7_gossip 8 (.iload_n 2) 1 9 := ⟨by decide +kernel, rfl⟩
theorem dX7_gossip_9 : St mX7_gossip 9 (.i2l) 1 10 := ⟨by decide +kernel, rfl⟩
theorem dX7_gossip_10 : St mX7_gossip 10 (.lconst 1) 1 11 := ⟨by decide +kernel, rfl⟩
theorem dX7_gossip_11 : St mX7_gossip 11 (.ldc2_w 72) 3 14 := ⟨by decide +kernel, rfl⟩
theorem dX7_gossip_14 : St mX7_gossip 14 (.invokestatic 43) 3 17 := ⟨by decide +kernel, rfl⟩
theorem dX7_gossip_17 : St mX7_gossip 17 (.ifCond .ne 5) 3 20 := ⟨by decide +kernel, rfl⟩
theorem dX7_gossip_20 : St mX7_gossip 20 (.iconst (-1)) 1 21 := ⟨by decide +kernel, rfl⟩
theorem dX7_gossip_21 : St mX7_gossip 21 (.ireturn) 1 22 := ⟨by decide +kernel, rfl⟩
theorem dX7_gossip_22 : St mX7_gossip 22 (.aload_n 0) 1 23 := ⟨by decide +kernel, rfl⟩
theorem dX7_gossip_23 : St mX7_gossip 23 (.invokevirtual 153) 3 26 := ⟨by decide +kernel, rfl⟩
theorem dX7_gossip_26 : St mX7_gossip 26 (.aload_n 0) 1 27 := ⟨by decide +kernel, rfl⟩
theorem dX7_gossip_27 : St mX7_gossip 27 (.getfield 7) 3 30 := ⟨by decide +kernel, rfl⟩
theorem dX7_gossip_30 : St mX7_gossip 30 (.bipush 27) 2 32 := ⟨by decide +kernel, rfl⟩
theorem dX7_gossip_32 : St mX7_gossip 32 (.iload_n 1) 1 33 := ⟨by decide +kernel, rfl⟩
theorem dX7_gossip_33 : St mX7_gossip 33 (.iadd) 1 34 := ⟨by decide +kernel, rfl⟩
theorem dX7_gossip_34 : St mX7_gossip 34 (.aload_n 0) 1 35 := ⟨by decide +kernel, rfl⟩
theorem dX7_gossip_35 : St mX7_gossip 35 (.getfield 7) 3 38 := ⟨by decide +kernel, rfl⟩
theorem dX7_gossip_38 : St mX7_gossip 38 (.bipush 27) 2 40 := ⟨by decide +kernel, rfl⟩
theorem dX7_gossip_40 : St mX7_gossip 40 (.iload_n 1) 1 41 := ⟨by decide +kernel, rfl⟩
theorem dX7_gossip_41 : St mX7_gossip 41 (.iadd) 1 42 := ⟨by decide +kernel, rfl⟩
theorem dX7_gossip_42 : St mX7_gossip 42 (.iaload) 1 43 := ⟨by decide +kernel, rfl⟩
theorem dX7_gossip_43 : St mX7_gossip 43 (.iload_n 2) 1 44 := ⟨by decide +kernel, rfl⟩
theorem dX7_gossip_44 : St mX7_gossip 44 (.iadd) 1 45 := ⟨by decide +kernel, rfl⟩
theorem dX7_gossip_45 : St mX7_gossip 45 (.invokestatic 55) 3 48 := ⟨by decide +kernel, rfl⟩
theorem dX7_gossip_48 : St mX7_gossip 48 (.iastore) 1 49 := ⟨by decide +kernel, rfl⟩
theorem dX7_gossip_49 : St mX7_gossip 49 (.aload_n 0) 1 50 := ⟨by decide +kernel, rfl⟩
theorem dX7_gossip_50 : St mX7_gossip 50 (.getfield 7) 3 53 := ⟨by decide +kernel, rfl⟩
theorem dX7_gossip_53 : St mX7_gossip 53 (.bipush 27) 2 55 := ⟨by decide +kernel, rfl⟩
theorem dX7_gossip_55 : St mX7_gossip 55 (.iload_n 1) 1 56 := ⟨by decide +kernel, rfl⟩
theorem dX7_gossip_56 : St mX7_gossip 56 (.iadd) 1 57 := ⟨by decide +kernel, rfl⟩
theorem dX7_gossip_57 : St mX7_gossip 57 (.iaload) 1 58 := ⟨by decide +kernel, rfl⟩
theorem dX7_gossip_58 : St mX7_gossip 58 (.ireturn) 1 59 := ⟨by decide +kernel, rfl⟩
theorem dX7_lovers_0 : St mX7_lovers 0 (.aload_n 0) 1 1 := ⟨by decide +kernel, rfl⟩
theorem dX7_lovers_1 : St mX7_lovers 1 (.iload_n 1) 1 2 := ⟨by decide +kernel, rfl⟩
theorem dX7_lovers_2 : St mX7_lovers 2 (.invokevirtual 83) 3 5 := ⟨by decide +kernel, rfl⟩
theorem dX7_lovers_5 : St mX7_lovers 5 (.ifCond .ne 5) 3 8 := ⟨by decide +kernel, rfl⟩
theorem dX7_lovers_8 : St mX7_lovers 8 (.iconst (-1)) 1 9 := ⟨by decide +kernel, rfl⟩
theorem dX7_lovers_9 : St mX7_lovers 9 (.ireturn) 1 10 := ⟨by decide +kernel, rfl⟩
theorem dX7_lovers_10 : St mX7_lovers 10 (.aload_n 0) 1 11 := ⟨by decide +kernel, rfl⟩
theorem dX7_lovers_11 : St mX7_lovers 11 (.getfield 7) 3 14 := ⟨by decide +kernel, rfl⟩
theorem dX7_lovers_14 : St mX7_lovers 14 (.bipush 22) 2 16 := ⟨by decide +kernel, rfl⟩
theorem dX7_lovers_16 : St mX7_lovers 16 (.iload_n 1) 1 17 := ⟨by decide +kernel, rfl⟩
theorem dX7_lovers_17 : St mX7_lovers 17 (.iadd) 1 18 := ⟨by decide +kernel, rfl⟩
theorem dX7_lovers_18 : St mX7_lovers 18 (.iaload) 1 19 := ⟨by decide +kernel, rfl⟩
theorem dX7_lovers_19 : St mX7_lovers 19 (.ifCond .ne 6) 3 22 := ⟨by decide +kernel, rfl⟩
theorem dX7_lovers_22 : St mX7_lovers 22 (.bipush (-2)) 2 24 := ⟨by decide +kernel, rfl⟩
theorem dX7_lovers_24 : St mX7_lovers 24 (.ireturn) 1 25 := ⟨by decide +kernel, rfl⟩
theorem dX7_lovers_25 : St mX7_lovers 25 (.aload_n 0) 1 26 := ⟨by decide +kernel, rfl⟩
theorem dX7_lovers_26 : St mX7_lovers 26 (.invokevirtual 153) 3 29 := ⟨by decide +kernel, rfl⟩
theorem dX7_lovers_29 : St mX7_lovers 29 (.aload_n 0) 1 30 := ⟨by decide +kernel, rfl⟩
theorem dX7_lovers_30 : St mX7_lovers 30 (.getfield 7) 3 33 := ⟨by decide +kernel, rfl⟩
theorem dX7_lovers_33 : St mX7_lovers 33 (.bipush 22) 2 35 := ⟨by decide +kernel, rfl⟩
theorem dX7_lovers_35 : St mX7_lovers 35 (.iload_n 1) 1 36 := ⟨by decide +kernel, rfl⟩
theorem dX7_lovers_36 : St mX7_lovers 36 (.iadd) 1 37 := ⟨by decide +kernel, rfl⟩
theorem dX7_lovers_37 : St mX7_lovers 37 (.dup2) 1 38 := ⟨by decide +kernel, rfl⟩
theorem dX7_lovers_38 : St mX7_lovers 38 (.iaload) 1 39 := ⟨by decide +kernel, rfl⟩
theorem dX7_lovers_39 : St mX7_lovers 39 (.iconst 1) 1 40 := ⟨by decide +kernel, rfl⟩
theorem dX7_lovers_40 : St mX7_lovers 40 (.isub) 1 41 := ⟨by decide +kernel, rfl⟩
theorem dX7_lovers_41 : St mX7_lovers 41 (.iastore) 1 42 := ⟨by decide +kernel, rfl⟩
theorem dX7_lovers_42 : St mX7_lovers 42 (.aload_n 0) 1 43 := ⟨by decide +kernel, rfl⟩
theorem dX7_lovers_43 : St mX7_lovers 43 (.getfield 7) 3 46 := ⟨by decide +kernel, rfl⟩
theorem dX7_lovers_46 : St mX7_lovers 46 (.bipush 22) 2 48 := ⟨by decide +kernel, rfl⟩
theorem dX7_lovers_48 : St mX7_lovers 48 (.iload_n 1) 1 49 := ⟨by decide +kernel, rfl⟩
theorem dX7_lovers_49 : St mX7_lovers 49 (.iadd) 1 50 := ⟨by decide +kernel, rfl⟩
theorem dX7_lovers_50 : St mX7_lovers 50 (.iaload) 1 51 := ⟨by decide +kernel, rfl⟩
theorem dX7_lovers_51 : St mX7_lovers 51 (.ireturn) 1 52 := ⟨by decide +kernel, rfl⟩
theorem dX7_fall_0 : St mX7_fall 0 (.aload_n 0) 1 1 := ⟨by decide +kernel, rfl⟩
theorem dX7_fall_1 : St mX7_fall 1 (.getfield 7) 3 4 := ⟨by decide +kernel, rfl⟩
theorem dX7_fall_4 : St mX7_fall 4 (.bipush 22) 2 6 := ⟨by decide +kernel, rfl⟩
theorem dX7_fall_6 : St mX7_fall 6 (.iload_n 1) 1 7 := ⟨by decide +kernel, rfl⟩
theorem dX7_fall_7 : St mX7_fall 7 (.iadd) 1 8 := ⟨by decide +kernel, rfl⟩
theorem dX7_fall_8 : St mX7_fall 8 (.iconst 0) 1 9 := ⟨by decide +kernel, rfl⟩
theorem dX7_fall_9 : St mX7_fall 9 (.iastore) 1 10 := ⟨by decide +kernel, rfl⟩
theorem dX7_fall_10 : St mX7_fall 10 (.aload_n 0) 1 11 := ⟨by decide +kernel, rfl⟩
theorem dX7_fall_11 : St mX7_fall 11 (.getfield 7) 3 14 := ⟨by decide +kernel, rfl⟩
theorem dX7_fall_14 : St mX7_fall 14 (.bipush 27) 2 16 := ⟨by decide +kernel, rfl⟩
theorem dX7_fall_16 : St mX7_fall 16 (.iload_n 1) 1 17 := ⟨by decide +kernel, rfl⟩
theorem dX7_fall_17 : St mX7_fall 17 (.iadd) 1 18 := ⟨by decide +kernel, rfl⟩
theorem dX7_fall_18 : St mX7_fall 18 (.aload_n 0) 1 19 := ⟨by decide +kernel, rfl⟩
theorem dX7_fall_19 : St mX7_fall 19 (.getfield 7) 3 22 := ⟨by decide +kernel, rfl⟩
theorem dX7_fall_22 : St mX7_fall 22 (.bipush 27) 2 24 := ⟨by decide +kernel, rfl⟩
theorem dX7_fall_24 : St mX7_fall 24 (.iload_n 1) 1 25 := ⟨by decide +kernel, rfl⟩
theorem dX7_fall_25 : St mX7_fall 25 (.iadd) 1 26 := ⟨by decide +kernel, rfl⟩
theorem dX7_fall_26 : St mX7_fall 26 (.iaload) 1 27 := ⟨by decide +kernel, rfl⟩
theorem dX7_fall_27 : St mX7_fall 27 (.iconst 5) 1 28 := ⟨by decide +kernel, rfl⟩
theorem dX7_fall_28 : St mX7_fall 28 (.iadd) 1 29 := ⟨by decide +kernel, rfl⟩
theorem dX7_fall_29 : St mX7_fall 29 (.invokestatic 55) 3 32 := ⟨by decide +kernel, rfl⟩
theorem dX7_fall_32 : St mX7_fall 32 (.iastore) 1 33 := ⟨by decide +kernel, rfl⟩
theorem dX7_fall_33 : St mX7_fall 33 (.return_) 1 34 := ⟨by decide +kernel, rfl⟩
theorem dX7_falls_0 : St mX7_falls 0 (.aload_n 0) 1 1 := ⟨by decide +kernel, rfl⟩
theorem dX7_falls_1 : St mX7_falls 1 (.iload_n 1) 1 2 := ⟨by decide +kernel, rfl⟩
theorem dX7_falls_2 : St mX7_falls 2 (.invokevirtual 83) 3 5 := ⟨by decide +kernel, rfl⟩
theorem dX7_falls_5 : St mX7_falls 5 (.ifCond .ne 5) 3 8 := ⟨by decide +kernel, rfl⟩
theorem dX7_falls_8 : St mX7_falls 8 (.iconst (-1)) 1 9 := ⟨by decide +kernel, rfl⟩
theorem dX7_falls_9 : St mX7_falls 9 (.ireturn) 1 10 := ⟨by decide +kernel, rfl⟩
theorem dX7_falls_10 : St mX7_falls 10 (.aload_n 0) 1 11 := ⟨by decide +kernel, rfl⟩
theorem dX7_falls_11 : St mX7_falls 11 (.getfield 7) 3 14 := ⟨by decide +kernel, rfl⟩
theorem dX7_falls_14 : St mX7_falls 14 (.bipush 22) 2 16 := ⟨by decide +kernel, rfl⟩
theorem dX7_falls_16 : St mX7_falls 16 (.iload_n 1) 1 17 := ⟨by decide +kernel, rfl⟩
theorem dX7_falls_17 : St mX7_falls 17 (.iadd) 1 18 := ⟨by decide +kernel, rfl⟩
theorem dX7_falls_18 : St mX7_falls 18 (.iaload) 1 19 := ⟨by decide +kernel, rfl⟩
theorem dX7_falls_19 : St mX7_falls 19 (.istore_n 2) 1 20 := ⟨by decide +kernel, rfl⟩
theorem dX7_falls_20 : St mX7_falls 20 (.iload_n 2) 1 21 := ⟨by decide +kernel, rfl⟩
theorem dX7_falls_21 : St mX7_falls 21 (.ifCond .ne 6) 3 24 := ⟨by decide +kernel, rfl⟩
theorem dX7_falls_24 : St mX7_falls 24 (.bipush (-2)) 2 26 := ⟨by decide +kernel, rfl⟩
theorem dX7_falls_26 : St mX7_falls 26 (.ireturn) 1 27 := ⟨by decide +kernel, rfl⟩
theorem dX7_falls_27 : St mX7_falls 27 (.aload_n 0) 1 28 := ⟨by decide +kernel, rfl⟩
theorem dX7_falls_28 : St mX7_falls 28 (.invokevirtual 153) 3 31 := ⟨by decide +kernel, rfl⟩
theorem dX7_falls_31 : St mX7_falls 31 (.aload_n 0) 1 32 := ⟨by decide +kernel, rfl⟩
theorem dX7_falls_32 : St mX7_falls 32 (.iload_n 1) 1 33 := ⟨by decide +kernel, rfl⟩
theorem dX7_falls_33 : St mX7_falls 33 (.invokevirtual 171) 3 36 := ⟨by decide +kernel, rfl⟩
theorem dX7_falls_36 : St mX7_falls 36 (.iload_n 2) 1 37 := ⟨by decide +kernel, rfl⟩
theorem dX7_falls_37 : St mX7_falls 37 (.ireturn) 1 38 := ⟨by decide +kernel, rfl⟩
theorem dX7_drift_0 : St mX7_drift 0 (.iload_n 1) 1 1 := ⟨by decide +kernel, rfl⟩
theorem dX7_drift_1 : St mX7_drift 1 (.i2l) 1 2 := ⟨by decide +kernel, rfl⟩
theorem dX7_drift_2 : St mX7_drift 2 (.lconst 1) 1 3 := ⟨by decide +kernel, rfl⟩
theorem dX7_drift_3 : St mX7_drift 3 (.ldc2_w 94) 3 6 := ⟨by decide +kernel, rfl⟩
theorem dX7_drift_6 : St mX7_drift 6 (.invokestatic 43) 3 9 := ⟨by decide +kernel, rfl⟩
theorem dX7_drift_9 : St mX7_drift 9 (.ifCond .ne 5) 3 12 := ⟨by decide +kernel, rfl⟩
theorem dX7_drift_12 : St mX7_drift 12 (.iconst (-1)) 1 13 := ⟨by decide +kernel, rfl⟩
theorem dX7_drift_13 : St mX7_drift 13 (.ireturn) 1 14 := ⟨by decide +kernel, rfl⟩
theorem dX7_drift_14 : St mX7_drift 14 (.aload_n 0) 1 15 := ⟨by decide +kernel, rfl⟩
theorem dX7_drift_15 : St mX7_drift 15 (.getfield 7) 3 18 := ⟨by decide +kernel, rfl⟩
theorem dX7_drift_18 : St mX7_drift 18 (.iconst 3) 1 19 := ⟨by decide +kernel, rfl⟩
theorem dX7_drift_19 : St mX7_drift 19 (.iaload) 1 20 := ⟨by decide +kernel, rfl⟩
theorem dX7_drift_20 : St mX7_drift 20 (.iload_n 1) 1 21 := ⟨by decide +kernel, rfl⟩
theorem dX7_drift_21 : St mX7_drift 21 (.iadd) 1 22 := ⟨by decide +kernel, rfl⟩
theorem dX7_drift_22 : St mX7_drift 22 (.sipush 9999) 3 25 := ⟨by decide +kernel, rfl⟩
theorem dX7_drift_25 : St mX7_drift 25 (.if_icmp .le 6) 3 28 := ⟨by decide +kernel, rfl⟩
theorem dX7_drift_28 : St mX7_drift 28 (.bipush (-3)) 2 30 := ⟨by decide +kernel, rfl⟩
theorem dX7_drift_30 : St mX7_drift 30 (.ireturn) 1 31 := ⟨by decide +kernel, rfl⟩
theorem dX7_drift_31 : St mX7_drift 31 (.iconst 0) 1 32 := ⟨by decide +kernel, rfl⟩
theorem dX7_drift_32 : St mX7_drift 32 (.istore_n 2) 1 33 := ⟨by decide +kernel, rfl⟩
theorem dX7_drift_33 : St mX7_drift 33 (.iconst 0) 1 34 := ⟨by decide +kernel, rfl⟩
theorem dX7_drift_34 : St mX7_drift 34 (.istore_n 3) 1 35 := ⟨by decide +kernel, rfl⟩
theorem dX7_drift_35 : St mX7_drift 35 (.iload_n 3) 1 36 := ⟨by decide +kernel, rfl⟩
theorem dX7_drift_36 : St mX7_drift 36 (.iload_n 1) 1 37 := ⟨by decide +kernel, rfl⟩
theorem dX7_drift_37 : St mX7_drift 37 (.if_icmp .ge 122) 3 40 := ⟨by decide +kernel, rfl⟩
theorem dX7_drift_40 : St mX7_drift 40 (.aload_n 0) 1 41 := ⟨by decide +kernel, rfl⟩
theorem dX7_drift_41 : St mX7_drift 41 (.invokevirtual 153) 3 44 := ⟨by decide +kernel, rfl⟩
theorem dX7_drift_44 : St mX7_drift 44 (.aload_n 0) 1 45 := ⟨by decide +kernel, rfl⟩
theorem dX7_drift_45 : St mX7_drift 45 (.getfield 7) 3 48 := ⟨by decide +kernel, rfl⟩
theorem dX7_drift_48 : St mX7_drift 48 (.invokestatic 156) 3 51 := ⟨by decide +kernel, rfl⟩
theorem dX7_drift_51 : St mX7_drift 51 (.istore 4) 2 53 := ⟨by decide +kernel, rfl⟩
theorem dX7_drift_53 : St mX7_drift 53 (.iconst 0) 1 54 := ⟨by decide +kernel, rfl⟩
theorem dX7_drift_54 : St mX7_drift 54 (.istore 5) 2 56 := ⟨by decide +kernel, rfl⟩
theorem dX7_drift_56 : St mX7_drift 56 (.iload 5) 2 58 := ⟨by decide +kernel, rfl⟩
theorem dX7_drift_58 : St mX7_drift 58 (.aload_n 0) 1 59 := ⟨by decide +kernel, rfl⟩
theorem dX7_drift_59 : St mX7_drift 59 (.getfield 7) 3 62 := ⟨by decide +kernel, rfl⟩
theorem dX7_drift_62 : St mX7_drift 62 (.iconst 0) 1 63 := ⟨by decide +kernel, rfl⟩
theorem dX7_drift_63 : St mX7_drift 63 (.iaload) 1 64 := ⟨by decide +kernel, rfl⟩
theorem dX7_drift_64 : St mX7_drift 64 (.iconst 1) 1 65 := ⟨by decide +kernel, rfl⟩
theorem dX7_drift_65 : St mX7_drift 65 (.isub) 1 66 := ⟨by decide +kernel, rfl⟩
theorem dX7_drift_66 : St mX7_drift 66 (.if_icmp .ge 87) 3 69 := ⟨by decide +kernel, rfl⟩
theorem dX7_drift_69 : St mX7_drift 69 (.aload_n 0) 1 70 := ⟨by decide +kernel, rfl⟩
theorem dX7_drift_70 : St mX7_drift 70 (.getfield 7) 3 73 := ⟨by decide +kernel, rfl⟩
theorem dX7_drift_73 : St mX7_drift 73 (.bipush 22) 2 75 := ⟨by decide +kernel, rfl⟩
theorem dX7_drift_75 : St mX7_drift 75 (.iload 5) 2 77 := ⟨by decide +kernel, rfl⟩
theorem dX7_drift_77 : St mX7_drift 77 (.iadd) 1 78 := ⟨by decide +kernel, rfl⟩
theorem dX7_drift_78 : St mX7_drift 78 (.iaload) 1 79 := ⟨by decide +kernel, rfl⟩
theorem dX7_drift_79 : St mX7_drift 79 (.bipush 12) 2 81 := ⟨by decide +kernel, rfl⟩
theorem dX7_drift_81 : St mX7_drift 81 (.if_icmp .lt 66) 3 84 := ⟨by decide +kernel, rfl⟩
theorem dX7_drift_84 : St mX7_drift 84 (.aload_n 0) 1 85 := ⟨by decide +kernel, rfl⟩
theorem dX7_drift_85 : St mX7_drift 85 (.getfield 7) 3 88 := ⟨by decide +kernel, rfl⟩
theorem dX7_drift_88 : St mX7_drift 88 (.bipush 37) 2 90 := ⟨by decide +kernel, rfl⟩
theorem dX7_drift_90 : St mX7_drift 90 (.aload_n 0) 1 91 := ⟨by decide +kernel, rfl⟩
theorem dX7_drift_91 : St mX7_drift 91 (.getfield 7) 3 94 := ⟨by decide +kernel, rfl⟩
theorem dX7_drift_94 : St mX7_drift 94 (.bipush 37) 2 96 := ⟨by decide +kernel, rfl⟩
theorem dX7_drift_96 : St mX7_drift 96 (.iaload) 1 97 := ⟨by decide +kernel, rfl⟩
theorem dX7_drift_97 : St mX7_drift 97 (.i2l) 1 98 := ⟨by decide +kernel, rfl⟩
theorem dX7_drift_98 : St mX7_drift 98 (.ldc2_w 175) 3 101 := ⟨by decide +kernel, rfl⟩
theorem dX7_drift_101 : St mX7_drift 101 (.lmul) 1 102 := ⟨by decide +kernel, rfl⟩
theorem dX7_drift_102 : St mX7_drift 102 (.ldc2_w 177) 3 105 := ⟨by decide +kernel, rfl⟩
theorem dX7_drift_105 : St mX7_drift 105 (.ladd) 1 106 := ⟨by decide +kernel, rfl⟩
theorem dX7_drift_106 : St mX7_drift 106 (.ldc2_w 179) 3 109 := ⟨by decide +kernel, rfl⟩
theorem dX7_drift_109 : St mX7_drift 109 (.lrem) 1 110 := ⟨by decide +kernel, rfl⟩
theorem dX7_drift_110 : St mX7_drift 110 (.l2i) 1 111 := ⟨by decide +kernel, rfl⟩
theorem dX7_drift_111 : St mX7_drift 111 (.iastore) 1 112 := ⟨by decide +kernel, rfl⟩
theorem dX7_drift_112 : St mX7_drift 112 (.aload_n 0) 1 113 := ⟨by decide +kernel, rfl⟩
theorem dX7_drift_113 : St mX7_drift 113 (.getfield 7) 3 116 := ⟨by decide +kernel, rfl⟩
theorem dX7_drift_116 : St mX7_drift 116 (.bipush 37) 2 118 := ⟨by decide +kernel, rfl⟩
theorem dX7_drift_118 : St mX7_drift 118 (.iaload) 1 119 := ⟨by decide +kernel, rfl⟩
theorem dX7_drift_119 : St mX7_drift 119 (.ldc 181) 2 121 := ⟨by decide +kernel, rfl⟩
theorem dX7_drift_121 : St mX7_drift 121 (.idiv) 1 122 := ⟨by decide +kernel, rfl⟩
theorem dX7_drift_122 : St mX7_drift 122 (.bipush 100) 2 124 := ⟨by decide +kernel, rfl⟩
theorem dX7_drift_124 : St mX7_drift 124 (.irem) 1 125 := ⟨by decide +kernel, rfl⟩
theorem dX7_drift_125 : St mX7_drift 125 (.aload_n 0) 1 126 := ⟨by decide +kernel, rfl⟩
theorem dX7_drift_126 : St mX7_drift 126 (.getfield 7) 3 129 := ⟨by decide +kernel, rfl⟩
theorem dX7_drift_129 : St mX7_drift 129 (.bipush 22) 2 131 := ⟨by decide +kernel, rfl⟩
theorem dX7_drift_131 : St mX7_drift 131 (.iload 5) 2 133 := ⟨by decide +kernel, rfl⟩
theorem dX7_drift_133 : St mX7_drift 133 (.iadd) 1 134 := ⟨by decide +kernel, rfl⟩
theorem dX7_drift_134 : St mX7_drift 134 (.iaload) 1 135 := ⟨by decide +kernel, rfl⟩
theorem dX7_drift_135 : St mX7_drift 135 (.if_icmp .ge 12) 3 138 := ⟨by decide +kernel, rfl⟩
theorem dX7_drift_138 : St mX7_drift 138 (.aload_n 0) 1 139 := ⟨by decide +kernel, rfl⟩
theorem dX7_drift_139 : St mX7_drift 139 (.iload 5) 2 141 := ⟨by decide +kernel, rfl⟩
theorem dX7_drift_141 : St mX7_drift 141 (.invokevirtual 171) 3 144 := ⟨by decide +kernel, rfl⟩
theorem dX7_drift_144 : St mX7_drift 144 (.iinc 2 1) 3 147 := ⟨by decide +kernel, rfl⟩
theorem dX7_drift_147 : St mX7_drift 147 (.iinc 5 1) 3 150 := ⟨by decide +kernel, rfl⟩
theorem dX7_drift_150 : St mX7_drift 150 (.goto (-94)) 3 153 := ⟨by decide +kernel, rfl⟩
theorem dX7_drift_153 : St mX7_drift 153 (.iinc 3 1) 3 156 := ⟨by decide +kernel, rfl⟩
theorem dX7_drift_156 : St mX7_drift 156 (.goto (-121)) 3 159 := ⟨by decide +kernel, rfl⟩
theorem dX7_drift_159 : St mX7_drift 159 (.iload_n 2) 1 160 := ⟨by decide +kernel, rfl⟩
theorem dX7_drift_160 : St mX7_drift 160 (.ireturn) 1 161 := ⟨by decide +kernel, rfl⟩
theorem dX7_undo_0 : St mX7_undo 0 (.aload_n 0) 1 1 := ⟨by decide +kernel, rfl⟩
theorem dX7_undo_1 : St mX7_undo 1 (.getfield 7) 3 4 := ⟨by decide +kernel, rfl⟩
theorem dX7_undo_4 : St mX7_undo 4 (.bipush 38) 2 6 := ⟨by decide +kernel, rfl⟩
theorem dX7_undo_6 : St mX7_undo 6 (.iaload) 1 7 := ⟨by decide +kernel, rfl⟩
theorem dX7_undo_7 : St mX7_undo 7 (.ifCond .ne 6) 3 10 := ⟨by decide +kernel, rfl⟩
theorem dX7_undo_10 : St mX7_undo 10 (.bipush (-4)) 2 12 := ⟨by decide +kernel, rfl⟩
theorem dX7_undo_12 : St mX7_undo 12 (.ireturn) 1 13 := ⟨by decide +kernel, rfl⟩
theorem dX7_undo_13 : St mX7_undo 13 (.aload_n 0) 1 14 := ⟨by decide +kernel, rfl⟩
theorem dX7_undo_14 : St mX7_undo 14 (.getfield 7) 3 17 := ⟨by decide +kernel, rfl⟩
theorem dX7_undo_17 : St mX7_undo 17 (.bipush 38) 2 19 := ⟨by decide +kernel, rfl⟩
theorem dX7_undo_19 : St mX7_undo 19 (.dup2) 1 20 := ⟨by decide +kernel, rfl⟩
theorem dX7_undo_20 : St mX7_undo 20 (.iaload) 1 21 := ⟨by decide +kernel, rfl⟩
theorem dX7_undo_21 : St mX7_undo 21 (.iconst 1) 1 22 := ⟨by decide +kernel, rfl⟩
theorem dX7_undo_22 : St mX7_undo 22 (.isub) 1 23 := ⟨by decide +kernel, rfl⟩
theorem dX7_undo_23 : St mX7_undo 23 (.iastore) 1 24 := ⟨by decide +kernel, rfl⟩
theorem dX7_undo_24 : St mX7_undo 24 (.bipush 39) 2 26 := ⟨by decide +kernel, rfl⟩
theorem dX7_undo_26 : St mX7_undo 26 (.bipush 23) 2 28 := ⟨by decide +kernel, rfl⟩
theorem dX7_undo_28 : St mX7_undo 28 (.aload_n 0) 1 29 := ⟨by decide +kernel, rfl⟩
theorem dX7_undo_29 : St mX7_undo 29 (.getfield 7) 3 32 := ⟨by decide +kernel, rfl⟩
theorem dX7_undo_32 : St mX7_undo 32 (.bipush 38) 2 34 := ⟨by decide +kernel, rfl⟩
theorem dX7_undo_34 : St mX7_undo 34 (.iaload) 1 35 := ⟨by decide +kernel, rfl⟩
theorem dX7_undo_35 : St mX7_undo 35 (.imul) 1 36 := ⟨by decide +kernel, rfl⟩
theorem dX7_undo_36 : St mX7_undo 36 (.iadd) 1 37 := ⟨by decide +kernel, rfl⟩
theorem dX7_undo_37 : St mX7_undo 37 (.istore_n 1) 1 38 := ⟨by decide +kernel, rfl⟩
theorem dX7_undo_38 : St mX7_undo 38 (.aload_n 0) 1 39 := ⟨by decide +kernel, rfl⟩
theorem dX7_undo_39 : St mX7_undo 39 (.getfield 7) 3 42 := ⟨by decide +kernel, rfl⟩
theorem dX7_undo_42 : St mX7_undo 42 (.iload_n 1) 1 43 := ⟨by decide +kernel, rfl⟩
theorem dX7_undo_43 : St mX7_undo 43 (.aload_n 0) 1 44 := ⟨by decide +kernel, rfl⟩
theorem dX7_undo_44 : St mX7_undo 44 (.getfield 7) 3 47 := ⟨by decide +kernel, rfl⟩
theorem dX7_undo_47 : St mX7_undo 47 (.bipush 16) 2 49 := ⟨by decide +kernel, rfl⟩
theorem dX7_undo_49 : St mX7_undo 49 (.bipush 22) 2 51 := ⟨by decide +kernel, rfl⟩
theorem dX7_undo_51 : St mX7_undo 51 (.invokestatic 139) 3 54 := ⟨by decide +kernel, rfl⟩
theorem dX7_undo_54 : St mX7_undo 54 (.aload_n 0) 1 55 := ⟨by decide +kernel, rfl⟩
theorem dX7_undo_55 : St mX7_undo 55 (.getfield 7) 3 58 := ⟨by decide +kernel, rfl⟩
theorem dX7_undo_58 : St mX7_undo 58 (.iconst 3) 1 59 := ⟨by decide +kernel, rfl⟩
theorem dX7_undo_59 : St mX7_undo 59 (.aload_n 0) 1 60 := ⟨by decide +kernel, rfl⟩
theorem dX7_undo_60 : St mX7_undo 60 (.getfield 7) 3 63 := ⟨by decide +kernel, rfl⟩
theorem dX7_undo_63 : St mX7_undo 63 (.iload_n 1) 1 64 := ⟨by decide +kernel, rfl⟩
theorem dX7_undo_64 : St mX7_undo 64 (.bipush 22) 2 66 := ⟨by decide +kernel, rfl⟩
theorem dX7_undo_66 : St mX7_undo 66 (.iadd) 1 67 := ⟨by decide +kernel, rfl⟩
theorem dX7_undo_67 : St mX7_undo 67 (.iaload) 1 68 := ⟨by decide +kernel, rfl⟩
theorem dX7_undo_68 : St mX7_undo 68 (.iastore) 1 69 := ⟨by decide +kernel, rfl⟩
theorem dX7_undo_69 : St mX7_undo 69 (.aload_n 0) 1 70 := ⟨by decide +kernel, rfl⟩
theorem dX7_undo_70 : St mX7_undo 70 (.getfield 7) 3 73 := ⟨by decide +kernel, rfl⟩
theorem dX7_undo_73 : St mX7_undo 73 (.bipush 38) 2 75 := ⟨by decide +kernel, rfl⟩
theorem dX7_undo_75 : St mX7_undo 75 (.iaload) 1 76 := ⟨by decide +kernel, rfl⟩
theorem dX7_undo_76 : St mX7_undo 76 (.ireturn) 1 77 := ⟨by decide +kernel, rfl⟩
theorem dX7_seed_0 : St mX7_seed 0 (.iload_n 1) 1 1 := ⟨by decide +kernel, rfl⟩
theorem dX7_seed_1 : St mX7_seed 1 (.ifCond .ge 7) 3 4 := ⟨by decide +kernel, rfl⟩
theorem dX7_seed_4 : St mX7_seed 4 (.iconst (-1)) 1 5 := ⟨by decide +kernel, rfl⟩
theorem dX7_seed_5 : St mX7_seed 5 (.goto 10) 3 8 := ⟨by decide +kernel, rfl⟩
theorem dX7_seed_8 : St mX7_seed 8 (.aload_n 0) 1 9 := ⟨by decide +kernel, rfl⟩
theorem dX7_seed_9 : St mX7_seed 9 (.bipush 37) 2 11 := ⟨by decide +kernel, rfl⟩
theorem dX7_seed_11 : St mX7_seed 11 (.iload_n 1) 1 12 := ⟨by decide +kernel, rfl⟩
theorem dX7_seed_12 : St mX7_seed 12 (.invokevirtual 88) 3 15 := ⟨by decide +kernel, rfl⟩
theorem dX7_seed_15 : St mX7_seed 15 (.ireturn) 1 16 := ⟨by decide +kernel, rfl⟩
theorem dX7_layAside_0 : St mX7_layAside 0 (.aload_n 0) 1 1 := ⟨by decide +kernel, rfl⟩
theorem dX7_layAside_1 : St mX7_layAside 1 (.getfield 7) 3 4 := ⟨by decide +kernel, rfl⟩
theorem dX7_layAside_4 : St mX7_layAside 4 (.iconst 0) 1 5 := ⟨by decide +kernel, rfl⟩
theorem dX7_layAside_5 : St mX7_layAside 5 (.aload_n 0) 1 6 := ⟨by decide +kernel, rfl⟩
theorem dX7_layAside_6 : St mX7_layAside 6 (.getfield 13) 3 9 := ⟨by decide +kernel, rfl⟩
theorem dX7_layAside_9 : St mX7_layAside 9 (.iconst 0) 1 10 := ⟨by decide +kernel, rfl⟩
theorem dX7_layAside_10 : St mX7_layAside 10 (.bipush 38) 2 12 := ⟨by decide +kernel, rfl⟩
theorem dX7_layAside_12 : St mX7_layAside 12 (.invokestatic 139) 3 15 := ⟨by decide +kernel, rfl⟩
theorem dX7_layAside_15 : St mX7_layAside 15 (.return_) 1 16 := ⟨by decide +kernel, rfl⟩
theorem dX7_go_0 : St mX7_go 0 (.iconst 0) 1 1 := ⟨by decide +kernel, rfl⟩
theorem dX7_go_1 : St mX7_go 1 (.istore_n 2) 1 2 := ⟨by decide +kernel, rfl⟩
theorem dX7_go_2 : St mX7_go 2 (.iload_n 2) 1 3 := ⟨by decide +kernel, rfl⟩
theorem dX7_go_3 : St mX7_go 3 (.iload_n 1) 1 4 := ⟨by decide +kernel, rfl⟩
theorem dX7_go_4 : St mX7_go 4 (.if_icmp .ge 17) 3 7 := ⟨by decide +kernel, rfl⟩
theorem dX7_go_7 : St mX7_go 7 (.aload_n 0) 1 8 := ⟨by decide +kernel, rfl⟩
theorem dX7_go_8 : St mX7_go 8 (.getfield 13) 3 11 := ⟨by decide +kernel, rfl⟩
theorem dX7_go_11 : St mX7_go 11 (.invokestatic 156) 3 14 := ⟨by decide +kernel, rfl⟩
theorem dX7_go_14 : St mX7_go 14 (.istore_n 3) 1 15 := ⟨by decide +kernel, rfl⟩
theorem dX7_go_15 : St mX7_go 15 (.iinc 2 1) 3 18 := ⟨by decide +kernel, rfl⟩
theorem dX7_go_18 : St mX7_go 18 (.goto (-16)) 3 21 := ⟨by decide +kernel, rfl⟩
theorem dX7_go_21 : St mX7_go 21 (.return_) 1 22 := ⟨by decide +kernel, rfl⟩
theorem dX7_ahead_0 : St mX7_ahead 0 (.iload_n 1) 1 1 := ⟨by decide +kernel, rfl⟩
theorem dX7_ahead_1 : St mX7_ahead 1 (.bipush (-4)) 2 3 := ⟨by decide +kernel, rfl⟩
theorem dX7_ahead_3 : St mX7_ahead 3 (.if_icmp .eq 11) 3 6 := ⟨by decide +kernel, rfl⟩
theorem dX7_ahead_6 : St mX7_ahead 6 (.aload_n 0) 1 7 := ⟨by decide +kernel, rfl⟩
theorem dX7_ahead_7 : St mX7_ahead 7 (.iload_n 1) 1 8 := ⟨by decide +kernel, rfl⟩
theorem dX7_ahead_8 : St mX7_ahead 8 (.invokevirtual 83) 3 11 := ⟨by decide +kernel, rfl⟩
theorem dX7_ahead_11 : St mX7_ahead 11 (.ifCond .eq 22) 3 14 := ⟨by decide +kernel, rfl⟩
theorem dX7_ahead_14 : St mX7_ahead 14 (.iload_n 2) 1 15 := ⟨by decide +kernel, rfl⟩
theorem dX7_ahead_15 : St mX7_ahead 15 (.i2l) 1 16 := ⟨by decide +kernel, rfl⟩
theorem dX7_ahead_16 : St mX7_ahead 16 (.lconst 0) 1 17 := ⟨by decide +kernel, rfl⟩
theorem dX7_ahead_17 : St mX7_ahead 17 (.ldc2_w 182) 3 20 := ⟨by decide +kernel, rfl⟩
theorem dX7_ahead_20 : St mX7_ahead 20 (.invokestatic 43) 3 23 := ⟨by decide +kernel, rfl⟩
theorem dX7_ahead_23 : St mX7_ahead 23 (.ifCond .eq 10) 3 26 := ⟨by decide +kernel, rfl⟩
theorem dX7_ahead_26 : St mX7_ahead 26 (.iload_n 3) 1 27 := ⟨by decide +kernel, rfl⟩
theorem dX7_ahead_27 : St mX7_ahead 27 (.invokestatic 163) 3 30 := ⟨by decide +kernel, rfl⟩
theorem dX7_ahead_30 : St mX7_ahead 30 (.ifCond .ne 5) 3 33 := ⟨by decide +kernel, rfl⟩
theorem dX7_ahead_33 : St mX7_ahead 33 (.iconst (-1)) 1 34 := ⟨by decide +kernel, rfl⟩
theorem dX7_ahead_34 : St mX7_ahead 34 (.ireturn) 1 35 := ⟨by decide +kernel, rfl⟩
theorem dX7_ahead_35 : St mX7_ahead 35 (.aload_n 0) 1 36 := ⟨by decide +kernel, rfl⟩
theorem dX7_ahead_36 : St mX7_ahead 36 (.invokevirtual 184) 3 39 := ⟨by decide +kernel, rfl⟩
theorem dX7_ahead_39 : St mX7_ahead 39 (.aload_n 0) 1 40 := ⟨by decide +kernel, rfl⟩
theorem dX7_ahead_40 : St mX7_ahead 40 (.iload_n 2) 1 41 := ⟨by decide +kernel, rfl⟩
theorem dX7_ahead_41 : St mX7_ahead 41 (.invokevirtual 187) 3 44 := ⟨by decide +kernel, rfl⟩
theorem dX7_ahead_44 : St mX7_ahead 44 (.iload_n 3) 1 45 := ⟨by decide +kernel, rfl⟩
theorem dX7_ahead_45 : St mX7_ahead 45 (.ifCond .ne 8) 3 48 := ⟨by decide +kernel, rfl⟩
theorem dX7_ahead_48 : St mX7_ahead 48 (.bipush 22) 2 50 := ⟨by decide +kernel, rfl⟩
theorem dX7_ahead_50 : St mX7_ahead 50 (.goto 5) 3 53 := ⟨by decide +kernel, rfl⟩
theorem dX7_ahead_53 : St mX7_ahead 53 (.bipush 27) 2 55 := ⟨by decide +kernel, rfl⟩
theorem dX7_ahead_55 : St mX7_ahead 55 (.istore 4) 2 57 := ⟨by decide +kernel, rfl⟩
theorem dX7_ahead_57 : St mX7_ahead 57 (.iload_n 1) 1 58 := ⟨by decide +kernel, rfl⟩
theorem dX7_ahead_58 : St mX7_ahead 58 (.bipush (-4)) 2 60 := ⟨by decide +kernel, rfl⟩
theorem dX7_ahead_60 : St mX7_ahead 60 (.if_icmp .ne 16) 3 63 := ⟨by decide +kernel, rfl⟩
theorem dX7_ahead_63 : St mX7_ahead 63 (.aload_n 0) 1 64 := ⟨by decide +kernel, rfl⟩
theorem dX7_ahead_64 : St mX7_ahead 64 (.getfield 13) 3 67 := ⟨by decide +kernel, rfl⟩
theorem dX7_ahead_67 : St mX7_ahead 67 (.iload 4) 2 69 := ⟨by decide +kernel, rfl⟩
theorem dX7_ahead_69 : St mX7_ahead 69 (.iconst 5) 1 70 := ⟨by decide +kernel, rfl⟩
theorem dX7_ahead_70 : St mX7_ahead 70 (.invokestatic 63) 3 73 := ⟨by decide +kernel, rfl⟩
theorem dX7_ahead_73 : St mX7_ahead 73 (.goto 12) 3 76 := ⟨by decide +kernel, rfl⟩
theorem dX7_ahead_76 : St mX7_ahead 76 (.aload_n 0) 1 77 := ⟨by decide +kernel, rfl⟩
theorem dX7_ahead_77 : St mX7_ahead 77 (.getfield 13) 3 80 := ⟨by decide +kernel, rfl⟩
theorem dX7_ahead_80 : St mX7_ahead 80 (.iload 4) 2 82 := ⟨by decide +kernel, rfl⟩
theorem dX7_ahead_82 : St mX7_ahead 82 (.iload_n 1) 1 83 := ⟨by decide +kernel, rfl⟩
theorem dX7_ahead_83 : St mX7_ahead 83 (.iadd) 1 84 := ⟨by decide +kernel, rfl⟩
theorem dX7_ahead_84 : St mX7_ahead 84 (.iaload) 1 85 := ⟨by decide +kernel, rfl⟩
theorem dX7_ahead_85 : St mX7_ahead 85 (.ireturn) 1 86 := ⟨by decide +kernel, rfl⟩
theorem dX7_settles_0 : St mX7_settles 0 (.aload_n 0) 1 1 := ⟨by decide +kernel, rfl⟩
theorem dX7_settles_1 : St mX7_settles 1 (.invokevirtual 184) 3 4 := ⟨by decide +kernel, rfl⟩
theorem dX7_settles_4 : St mX7_settles 4 (.iconst 0) 1 5 := ⟨by decide +kernel, rfl⟩
theorem dX7_settles_5 : St mX7_settles 5 (.istore_n 1) 1 6 := ⟨by decide +kernel, rfl⟩
theorem dX7_settles_6 : St mX7_settles 6 (.iload_n 1) 1 7 := ⟨by decide +kernel, rfl⟩
theorem dX7_settles_7 : St mX7_settles 7 (.bipush 21) 2 9 := ⟨by decide +kernel, rfl⟩
theorem dX7_settles_9 : St mX7_settles 9 (.if_icmp .ge 47) 3 12 := ⟨by decide +kernel, rfl⟩
theorem dX7_settles_12 : St mX7_settles 12 (.aload_n 0) 1 13 := ⟨by decide +kernel, rfl⟩
theorem dX7_settles_13 : St mX7_settles 13 (.aload_n 0) 1 14 := ⟨by decide +kernel, rfl⟩
theorem dX7_settles_14 : St mX7_settles 14 (.getfield 13) 3 17 := ⟨by decide +kernel, rfl⟩
theorem dX7_settles_17 : St mX7_settles 17 (.iconst 1) 1 18 := ⟨by decide +kernel, rfl⟩
theorem dX7_settles_18 : St mX7_settles 18 (.iaload) 1 19 := ⟨by decide +kernel, rfl⟩
theorem dX7_settles_19 : St mX7_settles 19 (.aload_n 0) 1 20 := ⟨by decide +kernel, rfl⟩
theorem dX7_settles_20 : St mX7_settles 20 (.getfield 13) 3 23 := ⟨by decide +kernel, rfl⟩
theorem dX7_settles_23 : St mX7_settles 23 (.iconst 3) 1 24 := ⟨by decide +kernel, rfl⟩
theorem dX7_settles_24 : St mX7_settles 24 (.iaload) 1 25 := ⟨by decide +kernel, rfl⟩
theorem dX7_settles_25 : St mX7_settles 25 (.aload_n 0) 1 26 := ⟨by decide +kernel, rfl⟩
theorem dX7_settles_26 : St mX7_settles 26 (.getfield 13) 3 29 := ⟨by decide +kernel, rfl⟩
theorem dX7_settles_29 : St mX7_settles 29 (.iconst 1) 1 30 := ⟨by decide +kernel, rfl⟩
theorem dX7_settles_30 : St mX7_settles 30 (.iaload) 1 31 := ⟨by decide +kernel, rfl⟩
theorem dX7_settles_31 : St mX7_settles 31 (.irem) 1 32 := ⟨by decide +kernel, rfl⟩
theorem dX7_settles_32 : St mX7_settles 32 (.isub) 1 33 := ⟨by decide +kernel, rfl⟩
theorem dX7_settles_33 : St mX7_settles 33 (.iconst 1) 1 34 := ⟨by decide +kernel, rfl⟩
theorem dX7_settles_34 : St mX7_settles 34 (.isub) 1 35 := ⟨by decide +kernel, rfl⟩
theorem dX7_settles_35 : St mX7_settles 35 (.invokevirtual 187) 3 38 := ⟨by decide +kernel, rfl⟩
theorem dX7_settles_38 : St mX7_settles 38 (.aload_n 0) 1 39 := ⟨by decide +kernel, rfl⟩
theorem dX7_settles_39 : St mX7_settles 39 (.getfield 13) 3 42 := ⟨by decide +kernel, rfl⟩
theorem dX7_settles_42 : St mX7_settles 42 (.invokestatic 156) 3 45 := ⟨by decide +kernel, rfl⟩
theorem dX7_settles_45 : St mX7_settles 45 (.ifCond .ne 5) 3 48 := ⟨by decide +kernel, rfl⟩
theorem dX7_settles_48 : St mX7_settles 48 (.iload_n 1) 1 49 := ⟨by decide +kernel, rfl⟩
theorem dX7_settles_49 : St mX7_settles 49 (.ireturn) 1 50 := ⟨by decide +kernel, rfl⟩
theorem dX7_settles_50 : St mX7_settles 50 (.iinc 1 1) 3 53 := ⟨by decide +kernel, rfl⟩
theorem dX7_settles_53 : St mX7_settles 53 (.goto (-47)) 3 56 := ⟨by decide +kernel, rfl⟩
theorem dX7_settles_56 : St mX7_settles 56 (.bipush (-4)) 2 58 := ⟨by decide +kernel, rfl⟩
theorem dX7_settles_58 : St mX7_settles 58 (.ireturn) 1 59 := ⟨by decide +kernel, rfl⟩
theorem dX7_leastGift_0 : St mX7_leastGift 0 (.aload_n 0) 1 1 := ⟨by decide +kernel, rfl⟩
theorem dX7_leastGift_1 : St mX7_leastGift 1 (.iload_n 1) 1 2 := ⟨by decide +kernel, rfl⟩
theorem dX7_leastGift_2 : St mX7_leastGift 2 (.invokevirtual 83) 3 5 := ⟨by decide +kernel, rfl⟩
theorem dX7_leastGift_5 : St mX7_leastGift 5 (.ifCond .eq 15) 3 8 := ⟨by decide +kernel, rfl⟩
theorem dX7_leastGift_8 : St mX7_leastGift 8 (.iload_n 2) 1 9 := ⟨by decide +kernel, rfl⟩
theorem dX7_leastGift_9 : St mX7_leastGift 9 (.i2l) 1 10 := ⟨by decide +kernel, rfl⟩
theorem dX7_leastGift_10 : St mX7_leastGift 10 (.lconst 0) 1 11 := ⟨by decide +kernel, rfl⟩
theorem dX7_leastGift_11 : St mX7_leastGift 11 (.ldc2_w 190) 3 14 := ⟨by decide +kernel, rfl⟩
theorem dX7_leastGift_14 : St mX7_leastGift 14 (.invokestatic 43) 3 17 := ⟨by decide +kernel, rfl⟩
theorem dX7_leastGift_17 : St mX7_leastGift 17 (.ifCond .ne 5) 3 20 := ⟨by decide +kernel, rfl⟩
theorem dX7_leastGift_20 : St mX7_leastGift 20 (.iconst (-1)) 1 21 := ⟨by decide +kernel, rfl⟩
theorem dX7_leastGift_21 : St mX7_leastGift 21 (.ireturn) 1 22 := ⟨by decide +kernel, rfl⟩
theorem dX7_leastGift_22 : St mX7_leastGift 22 (.iconst 0) 1 23 := ⟨by decide +kernel, rfl⟩
theorem dX7_leastGift_23 : St mX7_leastGift 23 (.istore_n 3) 1 24 := ⟨by decide +kernel, rfl⟩
theorem dX7_leastGift_24 : St mX7_leastGift 24 (.iload_n 3) 1 25 := ⟨by decide +kernel, rfl⟩
theorem dX7_leastGift_25 : St mX7_leastGift 25 (.bipush 21) 2 27 := ⟨by decide +kernel, rfl⟩
theorem dX7_leastGift_27 : St mX7_leastGift 27 (.if_icmp .ge 61) 3 30 := ⟨by decide +kernel, rfl⟩
theorem dX7_leastGift_30 : St mX7_leastGift 30 (.aload_n 0) 1 31 := ⟨by decide +kernel, rfl⟩
theorem dX7_leastGift_31 : St mX7_leastGift 31 (.invokevirtual 184) 3 34 := ⟨by decide +kernel, rfl⟩
theorem dX7_leastGift_34 : St mX7_leastGift 34 (.aload_n 0) 1 35 := ⟨by decide +kernel, rfl⟩
theorem dX7_leastGift_35 : St mX7_leastGift 35 (.getfield 13) 3 38 := ⟨by decide +kernel, rfl⟩
theorem dX7_leastGift_38 : St mX7_leastGift 38 (.bipush 27) 2 40 := ⟨by decide +kernel, rfl⟩
theorem dX7_leastGift_40 : St mX7_leastGift 40 (.iload_n 1) 1 41 := ⟨by decide +kernel, rfl⟩
theorem dX7_leastGift_41 : St mX7_leastGift 41 (.iadd) 1 42 := ⟨by decide +kernel, rfl⟩
theorem dX7_leastGift_42 : St mX7_leastGift 42 (.aload_n 0) 1 43 := ⟨by decide +kernel, rfl⟩
theorem dX7_leastGift_43 : St mX7_leastGift 43 (.getfield 13) 3 46 := ⟨by decide +kernel, rfl⟩
theorem dX7_leastGift_46 : St mX7_leastGift 46 (.bipush 27) 2 48 := ⟨by decide +kernel, rfl⟩
theorem dX7_leastGift_48 : St mX7_leastGift 48 (.iload_n 1) 1 49 := ⟨by decide +kernel, rfl⟩
theorem dX7_leastGift_49 : St mX7_leastGift 49 (.iadd) 1 50 := ⟨by decide +kernel, rfl⟩
theorem dX7_leastGift_50 : St mX7_leastGift 50 (.iaload) 1 51 := ⟨by decide +kernel, rfl⟩
theorem dX7_leastGift_51 : St mX7_leastGift 51 (.iload_n 3) 1 52 := ⟨by decide +kernel, rfl⟩
theorem dX7_leastGift_52 : St mX7_leastGift 52 (.isub) 1 53 := ⟨by decide +kernel, rfl⟩
theorem dX7_leastGift_53 : St mX7_leastGift 53 (.invokestatic 55) 3 56 := ⟨by decide +kernel, rfl⟩
theorem dX7_leastGift_56 : St mX7_leastGift 56 (.iastore) 1 57 := ⟨by decide +kernel, rfl⟩
theorem dX7_leastGift_57 : St mX7_leastGift 57 (.aload_n 0) 1 58 := ⟨by decide +kernel, rfl⟩
theorem dX7_leastGift_58 : St mX7_leastGift 58 (.aload_n 0) 1 59 := ⟨by decide +kernel, rfl⟩
theorem dX7_leastGift_59 : St mX7_leastGift 59 (.invokevirtual 147) 3 62 := ⟨by decide +kernel, rfl⟩
theorem dX7_leastGift_62 : St mX7_leastGift 62 (.invokevirtual 187) 3 65 := ⟨by decide +kernel, rfl⟩
theorem dX7_leastGift_65 : St mX7_leastGift 65 (.aload_n 0) 1 66 := ⟨by decide +kernel, rfl⟩
theorem dX7_leastGift_66 : St mX7_leastGift 66 (.getfield 13) 3 69 := ⟨by decide +kernel, rfl⟩
theorem dX7_leastGift_69 : St mX7_leastGift 69 (.bipush 22) 2 71 := ⟨by decide +kernel, rfl⟩
theorem dX7_leastGift_71 : St mX7_leastGift 71 (.iload_n 1) 1 72 := ⟨by decide +kernel, rfl⟩
theorem dX7_leastGift_72 : St mX7_leastGift 72 (.iadd) 1 73 := ⟨by decide +kernel, rfl⟩
theorem dX7_leastGift_73 : St mX7_leastGift 73 (.iaload) 1 74 := ⟨by decide +kernel, rfl⟩
theorem dX7_leastGift_74 : St mX7_leastGift 74 (.iload_n 2) 1 75 := ⟨by decide +kernel, rfl⟩
theorem dX7_leastGift_75 : St mX7_leastGift 75 (.if_icmp .gt 7) 3 78 := ⟨by decide +kernel, rfl⟩
theorem dX7_leastGift_78 : St mX7_leastGift 78 (.iload_n 3) 1 79 := ⟨by decide +kernel, rfl⟩
theorem dX7_leastGift_79 : St mX7_leastGift 79 (.iload_n 3) 1 80 := ⟨by decide +kernel, rfl⟩
theorem dX7_leastGift_80 : St mX7_leastGift 80 (.imul) 1 81 := ⟨by decide +kernel, rfl⟩
theorem dX7_leastGift_81 : St mX7_leastGift 81 (.ireturn) 1 82 := ⟨by decide +kernel, rfl⟩
theorem dX7_leastGift_82 : St mX7_leastGift 82 (.iinc 3 1) 3 85 := ⟨by decide +kernel, rfl⟩
theorem dX7_leastGift_85 : St mX7_leastGift 85 (.goto (-61)) 3 88 := ⟨by decide +kernel, rfl⟩
theorem dX7_leastGift_88 : St mX7_leastGift 88 (.bipush (-4)) 2 90 := ⟨by decide +kernel, rfl⟩
theorem dX7_leastGift_90 : St mX7_leastGift 90 (.ireturn) 1 91 := ⟨by decide +kernel, rfl⟩
theorem dX7_sorries_0 : St mX7_sorries 0 (.iload_n 1) 1 1 := ⟨by decide +kernel, rfl⟩
theorem dX7_sorries_1 : St mX7_sorries 1 (.i2l) 1 2 := ⟨by decide +kernel, rfl⟩
theorem dX7_sorries_2 : St mX7_sorries 2 (.lconst 0) 1 3 := ⟨by decide +kernel, rfl⟩
theorem dX7_sorries_3 : St mX7_sorries 3 (.ldc2_w 78) 3 6 := ⟨by decide +kernel, rfl⟩
theorem dX7_sorries_6 : St mX7_sorries 6 (.invokestatic 43) 3 9 := ⟨by decide +kernel, rfl⟩
theorem dX7_sorries_9 : St mX7_sorries 9 (.ifCond .eq 10) 3 12 := ⟨by decide +kernel, rfl⟩
theorem dX7_sorries_12 : St mX7_sorries 12 (.iload_n 2) 1 13 := ⟨by decide +kernel, rfl⟩
theorem dX7_sorries_13 : St mX7_sorries 13 (.invokestatic 163) 3 16 := ⟨by decide +kernel, rfl⟩
theorem dX7_sorries_16 : St mX7_sorries 16 (.ifCond .ne 5) 3 19 := ⟨by decide +kernel, rfl⟩
theorem dX7_sorries_19 : St mX7_sorries 19 (.iconst (-1)) 1 20 := ⟨by decide +kernel, rfl⟩
theorem dX7_sorries_20 : St mX7_sorries 20 (.ireturn) 1 21 := ⟨by decide +kernel, rfl⟩
theorem dX7_sorries_21 : St mX7_sorries 21 (.aload_n 0) 1 22 := ⟨by decide +kernel, rfl⟩
theorem dX7_sorries_22 : St mX7_sorries 22 (.invokevirtual 150) 3 25 := ⟨by decide +kernel, rfl⟩
theorem dX7_sorries_25 : St mX7_sorries 25 (.istore_n 3) 1 26 := ⟨by decide +kernel, rfl⟩
theorem dX7_sorries_26 : St mX7_sorries 26 (.iconst 0) 1 27 := ⟨by decide +kernel, rfl⟩
theorem dX7_sorries_27 : St mX7_sorries 27 (.istore 4) 2 29 := ⟨by decide +kernel, rfl⟩
theorem dX7_sorries_29 : St mX7_sorries 29 (.ldc 192) 2 31 := ⟨by decide +kernel, rfl⟩
theorem dX7_sorries_31 : St mX7_sorries 31 (.istore 5) 2 33 := ⟨by decide +kernel, rfl⟩
theorem dX7_sorries_33 : St mX7_sorries 33 (.iconst 0) 1 34 := ⟨by decide +kernel, rfl⟩
theorem dX7_sorries_34 : St mX7_sorries 34 (.istore 6) 2 36 := ⟨by decide +kernel, rfl⟩
theorem dX7_sorries_36 : St mX7_sorries 36 (.iload 6) 2 38 := ⟨by decide +kernel, rfl⟩
theorem dX7_sorries_38 : St mX7_sorries 38 (.bipush 32) 2 40 := ⟨by decide +kernel, rfl⟩
theorem dX7_sorries_40 : St mX7_sorries 40 (.if_icmp .ge 144) 3 43 := ⟨by decide +kernel, rfl⟩
theorem dX7_sorries_43 : St mX7_sorries 43 (.iload 6) 2 45 := ⟨by decide +kernel, rfl⟩
theorem dX7_sorries_45 : St mX7_sorries 45 (.iload_n 3) 1 46 := ⟨by decide +kernel, rfl⟩
theorem dX7_sorries_46 : St mX7_sorries 46 (.iconst (-1)) 1 47 := ⟨by decide +kernel, rfl⟩
theorem dX7_sorries_47 : St mX7_sorries 47 (.ixor) 1 48 := ⟨by decide +kernel, rfl⟩
theorem dX7_sorries_48 : St mX7_sorries 48 (.iand) 1 49 := ⟨by decide +kernel, rfl⟩
theorem dX7_sorries_49 : St mX7_sorries 49 (.ifCond .ne 129) 3 52 := ⟨by decide +kernel, rfl⟩
theorem dX7_sorries_52 : St mX7_sorries 52 (.iload 6) 2 54 := ⟨by decide +kernel, rfl⟩
theorem dX7_sorries_54 : St mX7_sorries 54 (.invokestatic 193) 3 57 := ⟨by decide +kernel, rfl⟩
theorem dX7_sorries_57 : St mX7_sorries 57 (.iload_n 1) 1 58 := ⟨by decide +kernel, rfl⟩
theorem dX7_sorries_58 : St mX7_sorries 58 (.if_icmp .gt 120) 3 61 := ⟨by decide +kernel, rfl⟩
theorem dX7_sorries_61 : St mX7_sorries 61 (.aload_n 0) 1 62 := ⟨by decide +kernel, rfl⟩
theorem dX7_sorries_62 : St mX7_sorries 62 (.invokevirtual 184) 3 65 := ⟨by decide +kernel, rfl⟩
theorem dX7_sorries_65 : St mX7_sorries 65 (.iconst 0) 1 66 := ⟨by decide +kernel, rfl⟩
theorem dX7_sorries_66 : St mX7_sorries 66 (.istore 7) 2 68 := ⟨by decide +kernel, rfl⟩
theorem dX7_sorries_68 : St mX7_sorries 68 (.iload 7) 2 70 := ⟨by decide +kernel, rfl⟩
theorem dX7_sorries_70 : St mX7_sorries 70 (.iconst 5) 1 71 := ⟨by decide +kernel, rfl⟩
theorem dX7_sorries_71 : St mX7_sorries 71 (.if_icmp .ge 28) 3 74 := ⟨by decide +kernel, rfl⟩
theorem dX7_sorries_74 : St mX7_sorries 74 (.iload 6) 2 76 := ⟨by decide +kernel, rfl⟩
theorem dX7_sorries_76 : St mX7_sorries 76 (.iload 7) 2 78 := ⟨by decide +kernel, rfl⟩
theorem dX7_sorries_78 : St mX7_sorries 78 (.invokestatic 196) 3 81 := ⟨by decide +kernel, rfl⟩
theorem dX7_sorries_81 : St mX7_sorries 81 (.ifCond .eq 12) 3 84 := ⟨by decide +kernel, rfl⟩
theorem dX7_sorries_84 : St mX7_sorries 84 (.aload_n 0) 1 85 := ⟨by decide +kernel, rfl⟩
theorem dX7_sorries_85 : St mX7_sorries 85 (.getfield 13) 3 88 := ⟨by decide +kernel, rfl⟩
theorem dX7_sorries_88 : St mX7_sorries 88 (.iload 7) 2 90 := ⟨by decide +kernel, rfl⟩
theorem dX7_sorries_90 : St mX7_sorries 90 (.invokestatic 159) 3 93 := ⟨by decide +kernel, rfl⟩
theorem dX7_sorries_93 : St mX7_sorries 93 (.iinc 7 1) 3 96 := ⟨by decide +kernel, rfl⟩
theorem dX7_sorries_96 : St mX7_sorries 96 (.goto (-28)) 3 99 := ⟨by decide +kernel, rfl⟩
theorem dX7_sorries_99 : St mX7_sorries 99 (.aload_n 0) 1 100 := ⟨by decide +kernel, rfl⟩
theorem dX7_sorries_100 : St mX7_sorries 100 (.aload_n 0) 1 101 := ⟨by decide +kernel, rfl⟩
theorem dX7_sorries_101 : St mX7_sorries 101 (.invokevirtual 147) 3 104 := ⟨by decide +kernel, rfl⟩
theorem dX7_sorries_104 : St mX7_sorries 104 (.invokevirtual 187) 3 107 := ⟨by decide +kernel, rfl⟩
theorem dX7_sorries_107 : St mX7_sorries 107 (.aload_n 0) 1 108 := ⟨by decide +kernel, rfl⟩
theorem dX7_sorries_108 : St mX7_sorries 108 (.getfield 13) 3 111 := ⟨by decide +kernel, rfl⟩
theorem dX7_sorries_111 : St mX7_sorries 111 (.invokestatic 143) 3 114 := ⟨by decide +kernel, rfl⟩
theorem dX7_sorries_114 : St mX7_sorries 114 (.istore 7) 2 116 := ⟨by decide +kernel, rfl⟩
theorem dX7_sorries_116 : St mX7_sorries 116 (.iload 7) 2 118 := ⟨by decide +kernel, rfl⟩
theorem dX7_sorries_118 : St mX7_sorries 118 (.iload 5) 2 120 := ⟨by decide +kernel, rfl⟩
theorem dX7_sorries_120 : St mX7_sorries 120 (.if_icmp .lt 23) 3 123 := ⟨by decide +kernel, rfl⟩
theorem dX7_sorries_123 : St mX7_sorries 123 (.iload 7) 2 125 := ⟨by decide +kernel, rfl⟩
theorem dX7_sorries_125 : St mX7_sorries 125 (.iload 5) 2 127 := ⟨by decide +kernel, rfl⟩
theorem dX7_sorries_127 : St mX7_sorries 127 (.if_icmp .ne 20) 3 130 := ⟨by decide +kernel, rfl⟩
theorem dX7_sorries_130 : St mX7_sorries 130 (.iload 6) 2 132 := ⟨by decide +kernel, rfl⟩
theorem dX7_sorries_132 : St mX7_sorries 132 (.invokestatic 193) 3 135 := ⟨by decide +kernel, rfl⟩
theorem dX7_sorries_135 : St mX7_sorries 135 (.iload 4) 2 137 := ⟨by decide +kernel, rfl⟩
theorem dX7_sorries_137 : St mX7_sorries 137 (.invokestatic 193) 3 140 := ⟨by decide +kernel, rfl⟩
theorem dX7_sorries_140 : St mX7_sorries 140 (.if_icmp .ge 7) 3 143 := ⟨by decide +kernel, rfl⟩
theorem dX7_sorries_143 : St mX7_sorries 143 (.iconst 1) 1 144 := ⟨by decide +kernel, rfl⟩
theorem dX7_sorries_144 : St mX7_sorries 144 (.goto 4) 3 147 := ⟨by decide +kernel, rfl⟩
theorem dX7_sorries_147 : St mX7_sorries 147 (.iconst 0) 1 148 := ⟨by decide +kernel, rfl⟩
theorem dX7_sorries_148 : St mX7_sorries 148 (.istore 8) 2 150 := ⟨by decide +kernel, rfl⟩
theorem dX7_sorries_150 : St mX7_sorries 150 (.iload 8) 2 152 := ⟨by decide +kernel, rfl⟩
theorem dX7_sorries_152 : St mX7_sorries 152 (.ifCond .eq 8) 3 155 := ⟨by decide +kernel, rfl⟩
theorem dX7_sorries_155 : St mX7_sorries 155 (.iload 6) 2 157 := ⟨by decide +kernel, rfl⟩
theorem dX7_sorries_157 : St mX7_sorries 157 (.goto 5) 3 160 := ⟨by decide +kernel, rfl⟩
theorem dX7_sorries_160 : St mX7_sorries 160 (.iload 4) 2 162 := ⟨by decide +kernel, rfl⟩
theorem dX7_sorries_162 : St mX7_sorries 162 (.istore 4) 2 164 := ⟨by decide +kernel, rfl⟩
theorem dX7_sorries_164 : St mX7_sorries 164 (.iload 8) 2 166 := ⟨by decide +kernel, rfl⟩
theorem dX7_sorries_166 : St mX7_sorries 166 (.ifCond .eq 8) 3 169 := ⟨by decide +kernel, rfl⟩
theorem dX7_sorries_169 : St mX7_sorries 169 (.iload 7) 2 171 := ⟨by decide +kernel, rfl⟩
theorem dX7_sorries_171 : St mX7_sorries 171 (.goto 5) 3 174 := ⟨by decide +kernel, rfl⟩
theorem dX7_sorries_174 : St mX7_sorries 174 (.iload 5) 2 176 := ⟨by decide +kernel, rfl⟩
theorem dX7_sorries_176 : St mX7_sorries 176 (.istore 5) 2 178 := ⟨by decide +kernel, rfl⟩
theorem dX7_sorries_178 : St mX7_sorries 178 (.iinc 6 1) 3 181 := ⟨by decide +kernel, rfl⟩
theorem dX7_sorries_181 : St mX7_sorries 181 (.goto (-145)) 3 184 := ⟨by decide +kernel, rfl⟩
theorem dX7_sorries_184 : St mX7_sorries 184 (.iload_n 2) 1 185 := ⟨by decide +kernel, rfl⟩
theorem dX7_sorries_185 : St mX7_sorries 185 (.ifCond .ne 8) 3 188 := ⟨by decide +kernel, rfl⟩
theorem dX7_sorries_188 : St mX7_sorries 188 (.iload 4) 2 190 := ⟨by decide +kernel, rfl⟩
theorem dX7_sorries_190 : St mX7_sorries 190 (.goto 5) 3 193 := ⟨by decide +kernel, rfl⟩
theorem dX7_sorries_193 : St mX7_sorries 193 (.iload 5) 2 195 := ⟨by decide +kernel, rfl⟩
theorem dX7_sorries_195 : St mX7_sorries 195 (.ireturn) 1 196 := ⟨by decide +kernel, rfl⟩
theorem dX7_stir_0 : St mX7_stir 0 (.iload_n 1) 1 1 := ⟨by decide +kernel, rfl⟩
theorem dX7_stir_1 : St mX7_stir 1 (.i2l) 1 2 := ⟨by decide +kernel, rfl⟩
theorem dX7_stir_2 : St mX7_stir 2 (.lconst 1) 1 3 := ⟨by decide +kernel, rfl⟩
theorem dX7_stir_3 : St mX7_stir 3 (.ldc2_w 72) 3 6 := ⟨by decide +kernel, rfl⟩
theorem dX7_stir_6 : St mX7_stir 6 (.invokestatic 43) 3 9 := ⟨by decide +kernel, rfl⟩
theorem dX7_stir_9 : St mX7_stir 9 (.ifCond .eq 10) 3 12 := ⟨by decide +kernel, rfl⟩
theorem dX7_stir_12 : St mX7_stir 12 (.iload_n 2) 1 13 := ⟨by decide +kernel, rfl⟩
theorem dX7_stir_13 : St mX7_stir 13 (.invokestatic 163) 3 16 := ⟨by decide +kernel, rfl⟩
theorem dX7_stir_16 : St mX7_stir 16 (.ifCond .ne 5) 3 19 := ⟨by decide +kernel, rfl⟩
theorem dX7_stir_19 : St mX7_stir 19 (.iconst (-1)) 1 20 := ⟨by decide +kernel, rfl⟩
theorem dX7_stir_20 : St mX7_stir 20 (.ireturn) 1 21 := ⟨by decide +kernel, rfl⟩
theorem dX7_stir_21 : St mX7_stir 21 (.bipush (-4)) 2 23 := ⟨by decide +kernel, rfl⟩
theorem dX7_stir_23 : St mX7_stir 23 (.istore_n 3) 1 24 := ⟨by decide +kernel, rfl⟩
theorem dX7_stir_24 : St mX7_stir 24 (.bipush (-4)) 2 26 := ⟨by decide +kernel, rfl⟩
theorem dX7_stir_26 : St mX7_stir 26 (.istore 4) 2 28 := ⟨by decide +kernel, rfl⟩
theorem dX7_stir_28 : St mX7_stir 28 (.iconst 0) 1 29 := ⟨by decide +kernel, rfl⟩
theorem dX7_stir_29 : St mX7_stir 29 (.istore 5) 2 31 := ⟨by decide +kernel, rfl⟩
theorem dX7_stir_31 : St mX7_stir 31 (.iload 5) 2 33 := ⟨by decide +kernel, rfl⟩
theorem dX7_stir_33 : St mX7_stir 33 (.aload_n 0) 1 34 := ⟨by decide +kernel, rfl⟩
theorem dX7_stir_34 : St mX7_stir 34 (.getfield 7) 3 37 := ⟨by decide +kernel, rfl⟩
theorem dX7_stir_37 : St mX7_stir 37 (.iconst 0) 1 38 := ⟨by decide +kernel, rfl⟩
theorem dX7_stir_38 : St mX7_stir 38 (.iaload) 1 39 := ⟨by decide +kernel, rfl⟩
theorem dX7_stir_39 : St mX7_stir 39 (.iconst 1) 1 40 := ⟨by decide +kernel, rfl⟩
theorem dX7_stir_40 : St mX7_stir 40 (.isub) 1 41 := ⟨by decide +kernel, rfl⟩
theorem dX7_stir_41 : St mX7_stir 41 (.if_icmp .ge 85) 3 44 := ⟨by decide +kernel, rfl⟩
theorem dX7_stir_44 : St mX7_stir 44 (.aload_n 0) 1 45 := ⟨by decide +kernel, rfl⟩
theorem dX7_stir_45 : St mX7_stir 45 (.invokevirtual 184) 3 48 := ⟨by decide +kernel, rfl⟩
theorem dX7_stir_48 : St mX7_stir 48 (.aload_n 0) 1 49 := ⟨by decide +kernel, rfl⟩
theorem dX7_stir_49 : St mX7_stir 49 (.getfield 13) 3 52 := ⟨by decide +kernel, rfl⟩
theorem dX7_stir_52 : St mX7_stir 52 (.bipush 27) 2 54 := ⟨by decide +kernel, rfl⟩
theorem dX7_stir_54 : St mX7_stir 54 (.iload 5) 2 56 := ⟨by decide +kernel, rfl⟩
theorem dX7_stir_56 : St mX7_stir 56 (.iadd) 1 57 := ⟨by decide +kernel, rfl⟩
theorem dX7_stir_57 : St mX7_stir 57 (.aload_n 0) 1 58 := ⟨by decide +kernel, rfl⟩
theorem dX7_stir_58 : St mX7_stir 58 (.getfield 13) 3 61 := ⟨by decide +kernel, rfl⟩
theorem dX7_stir_61 : St mX7_stir 61 (.bipush 27) 2 63 := ⟨by decide +kernel, rfl⟩
theorem dX7_stir_63 : St mX7_stir 63 (.iload 5) 2 65 := ⟨by decide +kernel, rfl⟩
theorem dX7_stir_65 : St mX7_stir 65 (.iadd) 1 66 := ⟨by decide +kernel, rfl⟩
theorem dX7_stir_66 : St mX7_stir 66 (.iaload) 1 67 := ⟨by decide +kernel, rfl⟩
theorem dX7_stir_67 : St mX7_stir 67 (.iload_n 1) 1 68 := ⟨by decide +kernel, rfl⟩
theorem dX7_stir_68 : St mX7_stir 68 (.iadd) 1 69 := ⟨by decide +kernel, rfl⟩
theorem dX7_stir_69 : St mX7_stir 69 (.invokestatic 55) 3 72 := ⟨by decide +kernel, rfl⟩
theorem dX7_stir_72 : St mX7_stir 72 (.iastore) 1 73 := ⟨by decide +kernel, rfl⟩
theorem dX7_stir_73 : St mX7_stir 73 (.aload_n 0) 1 74 := ⟨by decide +kernel, rfl⟩
theorem dX7_stir_74 : St mX7_stir 74 (.aload_n 0) 1 75 := ⟨by decide +kernel, rfl⟩
theorem dX7_stir_75 : St mX7_stir 75 (.invokevirtual 147) 3 78 := ⟨by decide +kernel, rfl⟩
theorem dX7_stir_78 : St mX7_stir 78 (.invokevirtual 187) 3 81 := ⟨by decide +kernel, rfl⟩
theorem dX7_stir_81 : St mX7_stir 81 (.aload_n 0) 1 82 := ⟨by decide +kernel, rfl⟩
theorem dX7_stir_82 : St mX7_stir 82 (.getfield 13) 3 85 := ⟨by decide +kernel, rfl⟩
theorem dX7_stir_85 : St mX7_stir 85 (.invokestatic 143) 3 88 := ⟨by decide +kernel, rfl⟩
theorem dX7_stir_88 : St mX7_stir 88 (.istore 6) 2 90 := ⟨by decide +kernel, rfl⟩
theorem dX7_stir_90 : St mX7_stir 90 (.iload 6) 2 92 := ⟨by decide +kernel, rfl⟩
theorem dX7_stir_92 : St mX7_stir 92 (.iload 4) 2 94 := ⟨by decide +kernel, rfl⟩
theorem dX7_stir_94 : St mX7_stir 94 (.if_icmp .le 8) 3 97 := ⟨by decide +kernel, rfl⟩
theorem dX7_stir_97 : St mX7_stir 97 (.iload 5) 2 99 := ⟨by decide +kernel, rfl⟩
theorem dX7_stir_99 : St mX7_stir 99 (.goto 4) 3 102 := ⟨by decide +kernel, rfl⟩
theorem dX7_stir_102 : St mX7_stir 102 (.iload_n 3) 1 103 := ⟨by decide +kernel, rfl⟩
theorem dX7_stir_103 : St mX7_stir 103 (.istore_n 3) 1 104 := ⟨by decide +kernel, rfl⟩
theorem dX7_stir_104 : St mX7_stir 104 (.iload 6) 2 106 := ⟨by decide +kernel, rfl⟩
theorem dX7_stir_106 : St mX7_stir 106 (.iload 4) 2 108 := ⟨by decide +kernel, rfl⟩
theorem dX7_stir_108 : St mX7_stir 108 (.if_icmp .le 8) 3 111 := ⟨by decide +kernel, rfl⟩
theorem dX7_stir_111 : St mX7_stir 111 (.iload 6) 2 113 := ⟨by decide +kernel, rfl⟩
theorem dX7_stir_113 : St mX7_stir 113 (.goto 5) 3 116 := ⟨by decide +kernel, rfl⟩
theorem dX7_stir_116 : St mX7_stir 116 (.iload 4) 2 118 := ⟨by decide +kernel, rfl⟩
theorem dX7_stir_118 : St mX7_stir 118 (.istore 4) 2 120 := ⟨by decide +kernel, rfl⟩
theorem dX7_stir_120 : St mX7_stir 120 (.iinc 5 1) 3 123 := ⟨by decide +kernel, rfl⟩
theorem dX7_stir_123 : St mX7_stir 123 (.goto (-92)) 3 126 := ⟨by decide +kernel, rfl⟩
theorem dX7_stir_126 : St mX7_stir 126 (.iload_n 2) 1 127 := ⟨by decide +kernel, rfl⟩
theorem dX7_stir_127 : St mX7_stir 127 (.ifCond .ne 7) 3 130 := ⟨by decide +kernel, rfl⟩
theorem dX7_stir_130 : St mX7_stir 130 (.iload_n 3) 1 131 := ⟨by decide +kernel, rfl⟩
theorem dX7_stir_131 : St mX7_stir 131 (.goto 5) 3 134 := ⟨by decide +kernel, rfl⟩
theorem dX7_stir_134 : St mX7_stir 134 (.iload 4) 2 136 := ⟨by decide +kernel, rfl⟩
theorem dX7_stir_136 : St mX7_stir 136 (.ireturn) 1 137 := ⟨by decide +kernel, rfl⟩
theorem dX7_holds_0 : St mX7_holds 0 (.iload_n 1) 1 1 := ⟨by decide +kernel, rfl⟩
theorem dX7_holds_1 : St mX7_holds 1 (.i2l) 1 2 := ⟨by decide +kernel, rfl⟩
theorem dX7_holds_2 : St mX7_holds 2 (.lconst 0) 1 3 := ⟨by decide +kernel, rfl⟩
theorem dX7_holds_3 : St mX7_holds 3 (.ldc2_w 94) 3 6 := ⟨by decide +kernel, rfl⟩
theorem dX7_holds_6 : St mX7_holds 6 (.invokestatic 43) 3 9 := ⟨by decide +kernel, rfl⟩
theorem dX7_holds_9 : St mX7_holds 9 (.ifCond .ne 5) 3 12 := ⟨by decide +kernel, rfl⟩
theorem dX7_holds_12 : St mX7_holds 12 (.iconst (-1)) 1 13 := ⟨by decide +kernel, rfl⟩
theorem dX7_holds_13 : St mX7_holds 13 (.ireturn) 1 14 := ⟨by decide +kernel, rfl⟩
theorem dX7_holds_14 : St mX7_holds 14 (.ldc 192) 2 16 := ⟨by decide +kernel, rfl⟩
theorem dX7_holds_16 : St mX7_holds 16 (.istore_n 2) 1 17 := ⟨by decide +kernel, rfl⟩
theorem dX7_holds_17 : St mX7_holds 17 (.iconst 0) 1 18 := ⟨by decide +kernel, rfl⟩
theorem dX7_holds_18 : St mX7_holds 18 (.istore_n 3) 1 19 := ⟨by decide +kernel, rfl⟩
theorem dX7_holds_19 : St mX7_holds 19 (.iload_n 3) 1 20 := ⟨by decide +kernel, rfl⟩
theorem dX7_holds_20 : St mX7_holds 20 (.iload_n 1) 1 21 := ⟨by decide +kernel, rfl⟩
theorem dX7_holds_21 : St mX7_holds 21 (.if_icmp .ge 69) 3 24 := ⟨by decide +kernel, rfl⟩
theorem dX7_holds_24 : St mX7_holds 24 (.iconst 0) 1 25 := ⟨by decide +kernel, rfl⟩
theorem dX7_holds_25 : St mX7_holds 25 (.istore 4) 2 27 := ⟨by decide +kernel, rfl⟩
theorem dX7_holds_27 : St mX7_holds 27 (.iload 4) 2 29 := ⟨by decide +kernel, rfl⟩
theorem dX7_holds_29 : St mX7_holds 29 (.aload_n 0) 1 30 := ⟨by decide +kernel, rfl⟩
theorem dX7_holds_30 : St mX7_holds 30 (.getfield 7) 3 33 := ⟨by decide +kernel, rfl⟩
theorem dX7_holds_33 : St mX7_holds 33 (.iconst 0) 1 34 := ⟨by decide +kernel, rfl⟩
theorem dX7_holds_34 : St mX7_holds 34 (.iaload) 1 35 := ⟨by decide +kernel, rfl⟩
theorem dX7_holds_35 : St mX7_holds 35 (.iconst 1) 1 36 := ⟨by decide +kernel, rfl⟩
theorem dX7_holds_36 : St mX7_holds 36 (.isub) 1 37 := ⟨by decide +kernel, rfl⟩
theorem dX7_holds_37 : St mX7_holds 37 (.if_icmp .ge 47) 3 40 := ⟨by decide +kernel, rfl⟩
theorem dX7_holds_40 : St mX7_holds 40 (.aload_n 0) 1 41 := ⟨by decide +kernel, rfl⟩
theorem dX7_holds_41 : St mX7_holds 41 (.getfield 7) 3 44 := ⟨by decide +kernel, rfl⟩
theorem dX7_holds_44 : St mX7_holds 44 (.bipush 22) 2 46 := ⟨by decide +kernel, rfl⟩
theorem dX7_holds_46 : St mX7_holds 46 (.iload 4) 2 48 := ⟨by decide +kernel, rfl⟩
theorem dX7_holds_48 : St mX7_holds 48 (.iadd) 1 49 := ⟨by decide +kernel, rfl⟩
theorem dX7_holds_49 : St mX7_holds 49 (.iaload) 1 50 := ⟨by decide +kernel, rfl⟩
theorem dX7_holds_50 : St mX7_holds 50 (.bipush 12) 2 52 := ⟨by decide +kernel, rfl⟩
theorem dX7_holds_52 : St mX7_holds 52 (.if_icmp .lt 24) 3 55 := ⟨by decide +kernel, rfl⟩
theorem dX7_holds_55 : St mX7_holds 55 (.iload_n 2) 1 56 := ⟨by decide +kernel, rfl⟩
theorem dX7_holds_56 : St mX7_holds 56 (.bipush 100) 2 58 := ⟨by decide +kernel, rfl⟩
theorem dX7_holds_58 : St mX7_holds 58 (.aload_n 0) 1 59 := ⟨by decide +kernel, rfl⟩
theorem dX7_holds_59 : St mX7_holds 59 (.getfield 7) 3 62 := ⟨by decide +kernel, rfl⟩
theorem dX7_holds_62 : St mX7_holds 62 (.bipush 22) 2 64 := ⟨by decide +kernel, rfl⟩
theorem dX7_holds_64 : St mX7_holds 64 (.iload 4) 2 66 := ⟨by decide +kernel, rfl⟩
theorem dX7_holds_66 : St mX7_holds 66 (.iadd) 1 67 := ⟨by decide +kernel, rfl⟩
theorem dX7_holds_67 : St mX7_holds 67 (.iaload) 1 68 := ⟨by decide +kernel, rfl⟩
theorem dX7_holds_68 : St mX7_holds 68 (.isub) 1 69 := ⟨by decide +kernel, rfl⟩
theorem dX7_holds_69 : St mX7_holds 69 (.imul) 1 70 := ⟨by decide +kernel, rfl⟩
theorem dX7_holds_70 : St mX7_holds 70 (.bipush 100) 2 72 := ⟨by decide +kernel, rfl⟩
theorem dX7_holds_72 : St mX7_holds 72 (.idiv) 1 73 := ⟨by decide +kernel, rfl⟩
theorem dX7_holds_73 : St mX7_holds 73 (.goto 4) 3 76 := ⟨by decide +kernel, rfl⟩
theorem dX7_holds_76 : St mX7_holds 76 (.iload_n 2) 1 77 := ⟨by decide +kernel, rfl⟩
theorem dX7_holds_77 : St mX7_holds 77 (.istore_n 2) 1 78 := ⟨by decide +kernel, rfl⟩
theorem dX7_holds_78 : St mX7_holds 78 (.iinc 4 1) 3 81 := ⟨by decide +kernel, rfl⟩
theorem dX7_holds_81 : St mX7_holds 81 (.goto (-54)) 3 84 := ⟨by decide +kernel, rfl⟩
theorem dX7_holds_84 : St mX7_holds 84 (.iinc 3 1) 3 87 := ⟨by decide +kernel, rfl⟩
theorem dX7_holds_87 : St mX7_holds 87 (.goto (-68)) 3 90 := ⟨by decide +kernel, rfl⟩
theorem dX7_holds_90 : St mX7_holds 90 (.iload_n 2) 1 91 := ⟨by decide +kernel, rfl⟩
theorem dX7_holds_91 : St mX7_holds 91 (.ireturn) 1 92 := ⟨by decide +kernel, rfl⟩
theorem dX7_image_0 : St mX7_image 0 (.aload_n 0) 1 1 := ⟨by decide +kernel, rfl⟩
theorem dX7_image_1 : St mX7_image 1 (.getfield 7) 3 4 := ⟨by decide +kernel, rfl⟩
theorem dX7_image_4 : St mX7_image 4 (.iconst 0) 1 5 := ⟨by decide +kernel, rfl⟩
theorem dX7_image_5 : St mX7_image 5 (.aload_n 0) 1 6 := ⟨by decide +kernel, rfl⟩
theorem dX7_image_6 : St mX7_image 6 (.getfield 19) 3 9 := ⟨by decide +kernel, rfl⟩
theorem dX7_image_9 : St mX7_image 9 (.iconst 0) 1 10 := ⟨by decide +kernel, rfl⟩
theorem dX7_image_10 : St mX7_image 10 (.sipush 223) 3 13 := ⟨by decide +kernel, rfl⟩
theorem dX7_image_13 : St mX7_image 13 (.invokestatic 139) 3 16 := ⟨by decide +kernel, rfl⟩
theorem dX7_image_16 : St mX7_image 16 (.aload_n 0) 1 17 := ⟨by decide +kernel, rfl⟩
theorem dX7_image_17 : St mX7_image 17 (.iconst 1) 1 18 := ⟨by decide +kernel, rfl⟩
theorem dX7_image_18 : St mX7_image 18 (.putfield 200) 3 21 := ⟨by decide +kernel, rfl⟩
theorem dX7_image_21 : St mX7_image 21 (.iconst 1) 1 22 := ⟨by decide +kernel, rfl⟩
theorem dX7_image_22 : St mX7_image 22 (.ireturn) 1 23 := ⟨by decide +kernel, rfl⟩
theorem dX7_restore_0 : St mX7_restore 0 (.aload_n 0) 1 1 := ⟨by decide +kernel, rfl⟩
theorem dX7_restore_1 : St mX7_restore 1 (.getfield 200) 3 4 := ⟨by decide +kernel, rfl⟩
theorem dX7_restore_4 : St mX7_restore 4 (.ifCond .ne 6) 3 7 := ⟨by decide +kernel, rfl⟩
theorem dX7_restore_7 : St mX7_restore 7 (.bipush (-4)) 2 9 := ⟨by decide +kernel, rfl⟩
theorem dX7_restore_9 : St mX7_restore 9 (.ireturn) 1 10 := ⟨by decide +kernel, rfl⟩
theorem dX7_restore_10 : St mX7_restore 10 (.aload_n 0) 1 11 := ⟨by decide +kernel, rfl⟩
theorem dX7_restore_11 : St mX7_restore 11 (.getfield 19) 3 14 := ⟨by decide +kernel, rfl⟩
theorem dX7_restore_14 : St mX7_restore 14 (.iconst 0) 1 15 := ⟨by decide +kernel, rfl⟩
theorem dX7_restore_15 : St mX7_restore 15 (.aload_n 0) 1 16 := ⟨by decide +kernel, rfl⟩
theorem dX7_restore_16 : St mX7_restore 16 (.getfield 7) 3 19 := ⟨by decide +kernel, rfl⟩
theorem dX7_restore_19 : St mX7_restore 19 (.iconst 0) 1 20 := ⟨by decide +kernel, rfl⟩
theorem dX7_restore_20 : St mX7_restore 20 (.sipush 223) 3 23 := ⟨by decide +kernel, rfl⟩
theorem dX7_restore_23 : St mX7_restore 23 (.invokestatic 139) 3 26 := ⟨by decide +kernel, rfl⟩
theorem dX7_restore_26 : St mX7_restore 26 (.iconst 1) 1 27 := ⟨by decide +kernel, rfl⟩
theorem dX7_restore_27 : St mX7_restore 27 (.ireturn) 1 28 := ⟨by decide +kernel, rfl⟩
theorem dX7_isSheet_0 : St mX7_isSheet 0 (.iload_n 0) 1 1 := ⟨by decide +kernel, rfl⟩
theorem dX7_isSheet_1 : St mX7_isSheet 1 (.i2l) 1 2 := ⟨by decide +kernel, rfl⟩
theorem dX7_isSheet_2 : St mX7_isSheet 2 (.lconst 0) 1 3 := ⟨by decide +kernel, rfl⟩
theorem dX7_isSheet_3 : St mX7_isSheet 3 (.ldc2_w 86) 3 6 := ⟨by decide +kernel, rfl⟩
theorem dX7_isSheet_6 : St mX7_isSheet 6 (.invokestatic 43) 3 9 := ⟨by decide +kernel, rfl⟩
theorem dX7_isSheet_9 : St mX7_isSheet 9 (.ifCond .eq 19) 3 12 := ⟨by decide +kernel, rfl⟩
theorem dX7_isSheet_12 : St mX7_isSheet 12 (.iload_n 1) 1 13 := ⟨by decide +kernel, rfl⟩
theorem dX7_isSheet_13 : St mX7_isSheet 13 (.i2l) 1 14 := ⟨by decide +kernel, rfl⟩
theorem dX7_isSheet_14 : St mX7_isSheet 14 (.lconst 0) 1 15 := ⟨by decide +kernel, rfl⟩
theorem dX7_isSheet_15 : St mX7_isSheet 15 (.ldc2_w 86) 3 18 := ⟨by decide +kernel, rfl⟩
theorem dX7_isSheet_18 : St mX7_isSheet 18 (.invokestatic 43) 3 21 := ⟨by decide +kernel, rfl⟩
theorem dX7_isSheet_21 : St mX7_isSheet 21 (.ifCond .eq 7) 3 24 := ⟨by decide +kernel, rfl⟩
theorem dX7_isSheet_24 : St mX7_isSheet 24 (.iconst 1) 1 25 := ⟨by decide +kernel, rfl⟩
theorem dX7_isSheet_25 : St mX7_isSheet 25 (.goto 4) 3 28 := ⟨by decide +kernel, rfl⟩
theorem dX7_isSheet_28 : St mX7_isSheet 28 (.iconst 0) 1 29 := ⟨by decide +kernel, rfl⟩
theorem dX7_isSheet_29 : St mX7_isSheet 29 (.ireturn) 1 30 := ⟨by decide +kernel, rfl⟩
theorem dX7_found_0 : St mX7_found 0 (.aload_n 0) 1 1 := ⟨by decide +kernel, rfl⟩
theorem dX7_found_1 : St mX7_found 1 (.getfield 28) 3 4 := ⟨by decide +kernel, rfl⟩
theorem dX7_found_4 : St mX7_found 4 (.iload_n 1) 1 5 := ⟨by decide +kernel, rfl⟩
theorem dX7_found_5 : St mX7_found 5 (.iaload) 1 6 := ⟨by decide +kernel, rfl⟩
theorem dX7_found_6 : St mX7_found 6 (.ifCond .ge 6) 3 9 := ⟨by decide +kernel, rfl⟩
theorem dX7_found_9 : St mX7_found 9 (.bipush (-11)) 2 11 := ⟨by decide +kernel, rfl⟩
theorem dX7_found_11 : St mX7_found 11 (.ireturn) 1 12 := ⟨by decide +kernel, rfl⟩
theorem dX7_found_12 : St mX7_found 12 (.aload_n 0) 1 13 := ⟨by decide +kernel, rfl⟩
theorem dX7_found_13 : St mX7_found 13 (.getfield 25) 3 16 := ⟨by decide +kernel, rfl⟩
theorem dX7_found_16 : St mX7_found 16 (.iload_n 1) 1 17 := ⟨by decide +kernel, rfl⟩
theorem dX7_found_17 : St mX7_found 17 (.iaload) 1 18 := ⟨by decide +kernel, rfl⟩
theorem dX7_found_18 : St mX7_found 18 (.iload_n 2) 1 19 := ⟨by decide +kernel, rfl⟩
theorem dX7_found_19 : St mX7_found 19 (.if_icmp .eq 6) 3 22 := ⟨by decide +kernel, rfl⟩
theorem dX7_found_22 : St mX7_found 22 (.bipush (-12)) 2 24 := ⟨by decide +kernel, rfl⟩
theorem dX7_found_24 : St mX7_found 24 (.ireturn) 1 25 := ⟨by decide +kernel, rfl⟩
theorem dX7_found_25 : St mX7_found 25 (.iload_n 3) 1 26 := ⟨by decide +kernel, rfl⟩
theorem dX7_found_26 : St mX7_found 26 (.ifCond .lt 20) 3 29 := ⟨by decide +kernel, rfl⟩
theorem dX7_found_29 : St mX7_found 29 (.iload_n 3) 1 30 := ⟨by decide +kernel, rfl⟩
theorem dX7_found_30 : St mX7_found 30 (.i2l) 1 31 := ⟨by decide +kernel, rfl⟩
theorem dX7_found_31 : St mX7_found 31 (.iload 4) 2 33 := ⟨by decide +kernel, rfl⟩
theorem dX7_found_33 : St mX7_found 33 (.i2l) 1 34 := ⟨by decide +kernel, rfl⟩
theorem dX7_found_34 : St mX7_found 34 (.ladd) 1 35 := ⟨by decide +kernel, rfl⟩
theorem dX7_found_35 : St mX7_found 35 (.aload_n 0) 1 36 := ⟨by decide +kernel, rfl⟩
theorem dX7_found_36 : St mX7_found 36 (.getfield 28) 3 39 := ⟨by decide +kernel, rfl⟩
theorem dX7_found_39 : St mX7_found 39 (.iload_n 1) 1 40 := ⟨by decide +kernel, rfl⟩
theorem dX7_found_40 : St mX7_found 40 (.iaload) 1 41 := ⟨by decide +kernel, rfl⟩
theorem dX7_found_41 : St mX7_found 41 (.i2l) 1 42 := ⟨by decide +kernel, rfl⟩
theorem dX7_found_42 : St mX7_found 42 (.lcmp) 1 43 := ⟨by decide +kernel, rfl⟩
theorem dX7_found_43 : St mX7_found 43 (.ifCond .le 8) 3 46 := ⟨by decide +kernel, rfl⟩
theorem dX7_found_46 : St mX7_found 46 (.bipush (-13)) 2 48 := ⟨by decide +kernel, rfl⟩
theorem dX7_found_48 : St mX7_found 48 (.goto 4) 3 51 := ⟨by decide +kernel, rfl⟩
theorem dX7_found_51 : St mX7_found 51 (.iconst 0) 1 52 := ⟨by decide +kernel, rfl⟩
theorem dX7_found_52 : St mX7_found 52 (.ireturn) 1 53 := ⟨by decide +kernel, rfl⟩
theorem dX7_cut_0 : St mX7_cut 0 (.iload_n 0) 1 1 := ⟨by decide +kernel, rfl⟩
theorem dX7_cut_1 : St mX7_cut 1 (.ifCond .ne 10) 3 4 := ⟨by decide +kernel, rfl⟩
theorem dX7_cut_4 : St mX7_cut 4 (.lload_n 1) 1 5 := ⟨by decide +kernel, rfl⟩
theorem dX7_cut_5 : St mX7_cut 5 (.l2i) 1 6 := ⟨by decide +kernel, rfl⟩
theorem dX7_cut_6 : St mX7_cut 6 (.i2b) 1 7 := ⟨by decide +kernel, rfl⟩
theorem dX7_cut_7 : St mX7_cut 7 (.i2l) 1 8 := ⟨by decide +kernel, rfl⟩
theorem dX7_cut_8 : St mX7_cut 8 (.goto 27) 3 11 := ⟨by decide +kernel, rfl⟩
theorem dX7_cut_11 : St mX7_cut 11 (.iload_n 0) 1 12 := ⟨by decide +kernel, rfl⟩
theorem dX7_cut_12 : St mX7_cut 12 (.iconst 1) 1 13 := ⟨by decide +kernel, rfl⟩
theorem dX7_cut_13 : St mX7_cut 13 (.if_icmp .ne 10) 3 16 := ⟨by decide +kernel, rfl⟩
theorem dX7_cut_16 : St mX7_cut 16 (.lload_n 1) 1 17 := ⟨by decide +kernel, rfl⟩
theorem dX7_cut_17 : St mX7_cut 17 (.l2i) 1 18 := ⟨by decide +kernel, rfl⟩
theorem dX7_cut_18 : St mX7_cut 18 (.i2s) 1 19 := ⟨by decide +kernel, rfl⟩
theorem dX7_cut_19 : St mX7_cut 19 (.i2l) 1 20 := ⟨by decide +kernel, rfl⟩
theorem dX7_cut_20 : St mX7_cut 20 (.goto 15) 3 23 := ⟨by decide +kernel, rfl⟩
theorem dX7_cut_23 : St mX7_cut 23 (.iload_n 0) 1 24 := ⟨by decide +kernel, rfl⟩
theorem dX7_cut_24 : St mX7_cut 24 (.iconst 2) 1 25 := ⟨by decide +kernel, rfl⟩
theorem dX7_cut_25 : St mX7_cut 25 (.if_icmp .ne 9) 3 28 := ⟨by decide +kernel, rfl⟩
theorem dX7_cut_28 : St mX7_cut 28 (.lload_n 1) 1 29 := ⟨by decide +kernel, rfl⟩
theorem dX7_cut_29 : St mX7_cut 29 (.l2i) 1 30 := ⟨by decide +kernel, rfl⟩
theorem dX7_cut_30 : St mX7_cut 30 (.i2l) 1 31 := ⟨by decide +kernel, rfl⟩
theorem dX7_cut_31 : St mX7_cut 31 (.goto 4) 3 34 := ⟨by decide +kernel, rfl⟩
theorem dX7_cut_34 : St mX7_cut 34 (.lload_n 1) 1 35 := ⟨by decide +kernel, rfl⟩
theorem dX7_cut_35 : St mX7_cut 35 (.lreturn) 1 36 := ⟨by decide +kernel, rfl⟩
theorem dX7_seen_0 : St mX7_seen 0 (.aload_n 0) 1 1 := ⟨by decide +kernel, rfl⟩
theorem dX7_seen_1 : St mX7_seen 1 (.iload_n 1) 1 2 := ⟨by decide +kernel, rfl⟩
theorem dX7_seen_2 : St mX7_seen 2 (.invokevirtual 83) 3 5 := ⟨by decide +kernel, rfl⟩
theorem dX7_seen_5 : St mX7_seen 5 (.ifCond .eq 32) 3 8 := ⟨by decide +kernel, rfl⟩
theorem dX7_seen_8 : St mX7_seen 8 (.iload_n 2) 1 9 := ⟨by decide +kernel, rfl⟩
theorem dX7_seen_9 : St mX7_seen 9 (.iload_n 3) 1 10 := ⟨by decide +kernel, rfl⟩
theorem dX7_seen_10 : St mX7_seen 10 (.invokestatic 203) 3 13 := ⟨by decide +kernel, rfl⟩
theorem dX7_seen_13 : St mX7_seen 13 (.ifCond .eq 24) 3 16 := ⟨by decide +kernel, rfl⟩
theorem dX7_seen_16 : St mX7_seen 16 (.iload 5) 2 18 := ⟨by decide +kernel, rfl⟩
theorem dX7_seen_18 : St mX7_seen 18 (.i2l) 1 19 := ⟨by decide +kernel, rfl⟩
theorem dX7_seen_19 : St mX7_seen 19 (.lconst 1) 1 20 := ⟨by decide +kernel, rfl⟩
theorem dX7_seen_20 : St mX7_seen 20 (.ldc2_w 206) 3 23 := ⟨by decide +kernel, rfl⟩
theorem dX7_seen_23 : St mX7_seen 23 (.invokestatic 43) 3 26 := ⟨by decide +kernel, rfl⟩
theorem dX7_seen_26 : St mX7_seen 26 (.ifCond .eq 11) 3 29 := ⟨by decide +kernel, rfl⟩
theorem dX7_seen_29 : St mX7_seen 29 (.iload 6) 2 31 := ⟨by decide +kernel, rfl⟩
theorem dX7_seen_31 : St mX7_seen 31 (.invokestatic 163) 3 34 := ⟨by decide +kernel, rfl⟩
theorem dX7_seen_34 : St mX7_seen 34 (.ifCond .ne 5) 3 37 := ⟨by decide +kernel, rfl⟩
theorem dX7_seen_37 : St mX7_seen 37 (.iconst (-1)) 1 38 := ⟨by decide +kernel, rfl⟩
theorem dX7_seen_38 : St mX7_seen 38 (.ireturn) 1 39 := ⟨by decide +kernel, rfl⟩
theorem dX7_seen_39 : St mX7_seen 39 (.aload_n 0) 1 40 := ⟨by decide +kernel, rfl⟩
theorem dX7_seen_40 : St mX7_seen 40 (.iload_n 2) 1 41 := ⟨by decide +kernel, rfl⟩
theorem dX7_seen_41 : St mX7_seen 41 (.iload_n 3) 1 42 := ⟨by decide +kernel, rfl⟩
theorem dX7_seen_42 : St mX7_seen 42 (.iload 4) 2 44 := ⟨by decide +kernel, rfl⟩
theorem dX7_seen_44 : St mX7_seen 44 (.iload 5) 2 46 := ⟨by decide +kernel, rfl⟩
theorem dX7_seen_46 : St mX7_seen 46 (.invokevirtual 208) 3 49 := ⟨by decide +kernel, rfl⟩
theorem dX7_seen_49 : St mX7_seen 49 (.istore 7) 2 51 := ⟨by decide +kernel, rfl⟩
theorem dX7_seen_51 : St mX7_seen 51 (.iload 7) 2 53 := ⟨by decide +kernel, rfl⟩
theorem dX7_seen_53 : St mX7_seen 53 (.ifCond .ge 6) 3 56 := ⟨by decide +kernel, rfl⟩
theorem dX7_seen_56 : St mX7_seen 56 (.iload 7) 2 58 := ⟨by decide +kernel, rfl⟩
theorem dX7_seen_58 : St mX7_seen 58 (.ireturn) 1 59 := ⟨by decide +kernel, rfl⟩
theorem dX7_seen_59 : St mX7_seen 59 (.iconst 0) 1 60 := ⟨by decide +kernel, rfl⟩
theorem dX7_seen_60 : St mX7_seen 60 (.istore 8) 2 62 := ⟨by decide +kernel, rfl⟩
theorem dX7_seen_62 : St mX7_seen 62 (.bipush (-4)) 2 64 := ⟨by decide +kernel, rfl⟩
theorem dX7_seen_64 : St mX7_seen 64 (.istore 9) 2 66 := ⟨by decide +kernel, rfl⟩
theorem dX7_seen_66 : St mX7_seen 66 (.iconst 0) 1 67 := ⟨by decide +kernel, rfl⟩
theorem dX7_seen_67 : St mX7_seen 67 (.istore 10) 2 69 := ⟨by decide +kernel, rfl⟩
theorem dX7_seen_69 : St mX7_seen 69 (.iload 10) 2 71 := ⟨by decide +kernel, rfl⟩
theorem dX7_seen_71 : St mX7_seen 71 (.bipush 100) 2 73 := ⟨by decide +kernel, rfl⟩
theorem dX7_seen_73 : St mX7_seen 73 (.if_icmp .ge 144) 3 76 := ⟨by decide +kernel, rfl⟩
theorem dX7_seen_76 : St mX7_seen 76 (.aload_n 0) 1 77 := ⟨by decide +kernel, rfl⟩
theorem dX7_seen_77 : St mX7_seen 77 (.invokevirtual 184) 3 80 := ⟨by decide +kernel, rfl⟩
theorem dX7_seen_80 : St mX7_seen 80 (.aload_n 0) 1 81 := ⟨by decide +kernel, rfl⟩
theorem dX7_seen_81 : St mX7_seen 81 (.getfield 13) 3 84 := ⟨by decide +kernel, rfl⟩
theorem dX7_seen_84 : St mX7_seen 84 (.bipush 27) 2 86 := ⟨by decide +kernel, rfl⟩
theorem dX7_seen_86 : St mX7_seen 86 (.iload_n 1) 1 87 := ⟨by decide +kernel, rfl⟩
theorem dX7_seen_87 : St mX7_seen 87 (.iadd) 1 88 := ⟨by decide +kernel, rfl⟩
theorem dX7_seen_88 : St mX7_seen 88 (.iload 10) 2 90 := ⟨by decide +kernel, rfl⟩
theorem dX7_seen_90 : St mX7_seen 90 (.iastore) 1 91 := ⟨by decide +kernel, rfl⟩
theorem dX7_seen_91 : St mX7_seen 91 (.iconst 1) 1 92 := ⟨by decide +kernel, rfl⟩
theorem dX7_seen_92 : St mX7_seen 92 (.istore 11) 2 94 := ⟨by decide +kernel, rfl⟩
theorem dX7_seen_94 : St mX7_seen 94 (.iconst 0) 1 95 := ⟨by decide +kernel, rfl⟩
theorem dX7_seen_95 : St mX7_seen 95 (.istore 12) 2 97 := ⟨by decide +kernel, rfl⟩
theorem dX7_seen_97 : St mX7_seen 97 (.iload 12) 2 99 := ⟨by decide +kernel, rfl⟩
theorem dX7_seen_99 : St mX7_seen 99 (.iload 5) 2 101 := ⟨by decide +kernel, rfl⟩
theorem dX7_seen_101 : St mX7_seen 101 (.if_icmp .ge 74) 3 104 := ⟨by decide +kernel, rfl⟩
theorem dX7_seen_104 : St mX7_seen 104 (.aload_n 0) 1 105 := ⟨by decide +kernel, rfl⟩
theorem dX7_seen_105 : St mX7_seen 105 (.aload_n 0) 1 106 := ⟨by decide +kernel, rfl⟩
theorem dX7_seen_106 : St mX7_seen 106 (.getfield 13) 3 109 := ⟨by decide +kernel, rfl⟩
theorem dX7_seen_109 : St mX7_seen 109 (.iconst 1) 1 110 := ⟨by decide +kernel, rfl⟩
theorem dX7_seen_110 : St mX7_seen 110 (.iaload) 1 111 := ⟨by decide +kernel, rfl⟩
theorem dX7_seen_111 : St mX7_seen 111 (.aload_n 0) 1 112 := ⟨by decide +kernel, rfl⟩
theorem dX7_seen_112 : St mX7_seen 112 (.getfield 13) 3 115 := ⟨by decide +kernel, rfl⟩
theorem dX7_seen_115 : St mX7_seen 115 (.iconst 3) 1 116 := ⟨by decide +kernel, rfl⟩
theorem dX7_seen_116 : St mX7_seen 116 (.iaload) 1 117 := ⟨by decide +kernel, rfl⟩
theorem dX7_seen_117 : St mX7_seen 117 (.aload_n 0) 1 118 := ⟨by decide +kernel, rfl⟩
theorem dX7_seen_118 : St mX7_seen 118 (.getfield 13) 3 121 := ⟨by decide +kernel, rfl⟩
theorem dX7_seen_121 : St mX7_seen 121 (.iconst 1) 1 122 := ⟨by decide +kernel, rfl⟩
theorem dX7_seen_122 : St mX7_seen 122 (.iaload) 1 123 := ⟨by decide +kernel, rfl⟩
theorem dX7_seen_123 : St mX7_seen 123 (.irem) 1 124 := ⟨by decide +kernel, rfl⟩
theorem dX7_seen_124 : St mX7_seen 124 (.isub) 1 125 := ⟨by decide +kernel, rfl⟩
theorem dX7_seen_125 : St mX7_seen 125 (.invokevirtual 187) 3 128 := ⟨by decide +kernel, rfl⟩
theorem dX7_seen_128 : St mX7_seen 128 (.iload 11) 2 130 := ⟨by decide +kernel, rfl⟩
theorem dX7_seen_130 : St mX7_seen 130 (.ifCond .eq 36) 3 133 := ⟨by decide +kernel, rfl⟩
theorem dX7_seen_133 : St mX7_seen 133 (.aload_n 0) 1 134 := ⟨by decide +kernel, rfl⟩
theorem dX7_seen_134 : St mX7_seen 134 (.getfield 31) 3 137 := ⟨by decide +kernel, rfl⟩
theorem dX7_seen_137 : St mX7_seen 137 (.bipush 24) 2 139 := ⟨by decide +kernel, rfl⟩
theorem dX7_seen_139 : St mX7_seen 139 (.iload_n 2) 1 140 := ⟨by decide +kernel, rfl⟩
theorem dX7_seen_140 : St mX7_seen 140 (.imul) 1 141 := ⟨by decide +kernel, rfl⟩
theorem dX7_seen_141 : St mX7_seen 141 (.iload 4) 2 143 := ⟨by decide +kernel, rfl⟩
theorem dX7_seen_143 : St mX7_seen 143 (.iadd) 1 144 := ⟨by decide +kernel, rfl⟩
theorem dX7_seen_144 : St mX7_seen 144 (.iload 12) 2 146 := ⟨by decide +kernel, rfl⟩
theorem dX7_seen_146 : St mX7_seen 146 (.iadd) 1 147 := ⟨by decide +kernel, rfl⟩
theorem dX7_seen_147 : St mX7_seen 147 (.laload) 1 148 := ⟨by decide +kernel, rfl⟩
theorem dX7_seen_148 : St mX7_seen 148 (.aload_n 0) 1 149 := ⟨by decide +kernel, rfl⟩
theorem dX7_seen_149 : St mX7_seen 149 (.getfield 13) 3 152 := ⟨by decide +kernel, rfl⟩
theorem dX7_seen_152 : St mX7_seen 152 (.bipush 22) 2 154 := ⟨by decide +kernel, rfl⟩
theorem dX7_seen_154 : St mX7_seen 154 (.iload_n 1) 1 155 := ⟨by decide +kernel, rfl⟩
theorem dX7_seen_155 : St mX7_seen 155 (.iadd) 1 156 := ⟨by decide +kernel, rfl⟩
theorem dX7_seen_156 : St mX7_seen 156 (.iaload) 1 157 := ⟨by decide +kernel, rfl⟩
theorem dX7_seen_157 : St mX7_seen 157 (.i2l) 1 158 := ⟨by decide +kernel, rfl⟩
theorem dX7_seen_158 : St mX7_seen 158 (.lcmp) 1 159 := ⟨by decide +kernel, rfl⟩
theorem dX7_seen_159 : St mX7_seen 159 (.ifCond .ne 7) 3 162 := ⟨by decide +kernel, rfl⟩
theorem dX7_seen_162 : St mX7_seen 162 (.iconst 1) 1 163 := ⟨by decide +kernel, rfl⟩
theorem dX7_seen_163 : St mX7_seen 163 (.goto 4) 3 166 := ⟨by decide +kernel, rfl⟩
theorem dX7_seen_166 : St mX7_seen 166 (.iconst 0) 1 167 := ⟨by decide +kernel, rfl⟩
theorem dX7_seen_167 : St mX7_seen 167 (.istore 11) 2 169 := ⟨by decide +kernel, rfl⟩
theorem dX7_seen_169 : St mX7_seen 169 (.iinc 12 1) 3 172 := ⟨by decide +kernel, rfl⟩
theorem dX7_seen_172 : St mX7_seen 172 (.goto (-75)) 3 175 := ⟨by decide +kernel, rfl⟩
theorem dX7_seen_175 : St mX7_seen 175 (.iload 8) 2 177 := ⟨by decide +kernel, rfl⟩
theorem dX7_seen_177 : St mX7_seen 177 (.iload 11) 2 179 := ⟨by decide +kernel, rfl⟩
theorem dX7_seen_179 : St mX7_seen 179 (.ifCond .eq 7) 3 182 := ⟨by decide +kernel, rfl⟩
theorem dX7_seen_182 : St mX7_seen 182 (.iconst 1) 1 183 := ⟨by decide +kernel, rfl⟩
theorem dX7_seen_183 : St mX7_seen 183 (.goto 4) 3 186 := ⟨by decide +kernel, rfl⟩
theorem dX7_seen_186 : St mX7_seen 186 (.iconst 0) 1 187 := ⟨by decide +kernel, rfl⟩
theorem dX7_seen_187 : St mX7_seen 187 (.iadd) 1 188 := ⟨by decide +kernel, rfl⟩
theorem dX7_seen_188 : St mX7_seen 188 (.istore 8) 2 190 := ⟨by decide +kernel, rfl⟩
theorem dX7_seen_190 : St mX7_seen 190 (.iload 11) 2 192 := ⟨by decide +kernel, rfl⟩
theorem dX7_seen_192 : St mX7_seen 192 (.ifCond .eq 15) 3 195 := ⟨by decide +kernel, rfl⟩
theorem dX7_seen_195 : St mX7_seen 195 (.iload 9) 2 197 := ⟨by decide +kernel, rfl⟩
theorem dX7_seen_197 : St mX7_seen 197 (.bipush (-4)) 2 199 := ⟨by decide +kernel, rfl⟩
theorem dX7_seen_199 : St mX7_seen 199 (.if_icmp .ne 8) 3 202 := ⟨by decide +kernel, rfl⟩
theorem dX7_seen_202 : St mX7_seen 202 (.iload 10) 2 204 := ⟨by decide +kernel, rfl⟩
theorem dX7_seen_204 : St mX7_seen 204 (.goto 5) 3 207 := ⟨by decide +kernel, rfl⟩
theorem dX7_seen_207 : St mX7_seen 207 (.iload 9) 2 209 := ⟨by decide +kernel, rfl⟩
theorem dX7_seen_209 : St mX7_seen 209 (.istore 9) 2 211 := ⟨by decide +kernel, rfl⟩
theorem dX7_seen_211 : St mX7_seen 211 (.iinc 10 1) 3 214 := ⟨by decide +kernel, rfl⟩
theorem dX7_seen_214 : St mX7_seen 214 (.goto (-145)) 3 217 := ⟨by decide +kernel, rfl⟩
theorem dX7_seen_217 : St mX7_seen 217 (.iload 6) 2 219 := ⟨by decide +kernel, rfl⟩
theorem dX7_seen_219 : St mX7_seen 219 (.ifCond .ne 8) 3 222 := ⟨by decide +kernel, rfl⟩
theorem dX7_seen_222 : St mX7_seen 222 (.iload 8) 2 224 := ⟨by decide +kernel, rfl⟩
theorem dX7_seen_224 : St mX7_seen 224 (.goto 5) 3 227 := ⟨by decide +kernel, rfl⟩
theorem dX7_seen_227 : St mX7_seen 227 (.iload 9) 2 229 := ⟨by decide +kernel, rfl⟩
theorem dX7_seen_229 : St mX7_seen 229 (.ireturn) 1 230 := ⟨by decide +kernel, rfl⟩
theorem dX7_film_0 : St mX7_film 0 (.aload_n 0) 1 1 := ⟨by decide +kernel, rfl⟩
theorem dX7_film_1 : St mX7_film 1 (.iload_n 1) 1 2 := ⟨by decide +kernel, rfl⟩
theorem dX7_film_2 : St mX7_film 2 (.invokevirtual 83) 3 5 := ⟨by decide +kernel, rfl⟩
theorem dX7_film_5 : St mX7_film 5 (.ifCond .eq 24) 3 8 := ⟨by decide +kernel, rfl⟩
theorem dX7_film_8 : St mX7_film 8 (.iload_n 2) 1 9 := ⟨by decide +kernel, rfl⟩
theorem dX7_film_9 : St mX7_film 9 (.i2l) 1 10 := ⟨by decide +kernel, rfl⟩
theorem dX7_film_10 : St mX7_film 10 (.lconst 1) 1 11 := ⟨by decide +kernel, rfl⟩
theorem dX7_film_11 : St mX7_film 11 (.ldc2_w 212) 3 14 := ⟨by decide +kernel, rfl⟩
theorem dX7_film_14 : St mX7_film 14 (.invokestatic 43) 3 17 := ⟨by decide +kernel, rfl⟩
theorem dX7_film_17 : St mX7_film 17 (.ifCond .eq 12) 3 20 := ⟨by decide +kernel, rfl⟩
theorem dX7_film_20 : St mX7_film 20 (.iload_n 3) 1 21 := ⟨by decide +kernel, rfl⟩
theorem dX7_film_21 : St mX7_film 21 (.iload 4) 2 23 := ⟨by decide +kernel, rfl⟩
theorem dX7_film_23 : St mX7_film 23 (.invokestatic 203) 3 26 := ⟨by decide +kernel, rfl⟩
theorem dX7_film_26 : St mX7_film 26 (.ifCond .ne 5) 3 29 := ⟨by decide +kernel, rfl⟩
theorem dX7_film_29 : St mX7_film 29 (.iconst (-1)) 1 30 := ⟨by decide +kernel, rfl⟩
theorem dX7_film_30 : St mX7_film 30 (.ireturn) 1 31 := ⟨by decide +kernel, rfl⟩
theorem dX7_film_31 : St mX7_film 31 (.aload_n 0) 1 32 := ⟨by decide +kernel, rfl⟩
theorem dX7_film_32 : St mX7_film 32 (.iload_n 3) 1 33 := ⟨by decide +kernel, rfl⟩
theorem dX7_film_33 : St mX7_film 33 (.iload 4) 2 35 := ⟨by decide +kernel, rfl⟩
theorem dX7_film_35 : St mX7_film 35 (.iload 5) 2 37 := ⟨by decide +kernel, rfl⟩
theorem dX7_film_37 : St mX7_film 37 (.iload_n 2) 1 38 := ⟨by decide +kernel, rfl⟩
theorem dX7_film_38 : St mX7_film 38 (.invokevirtual 208) 3 41 := ⟨by decide +kernel, rfl⟩
theorem dX7_film_41 : St mX7_film 41 (.istore 6) 2 43 := ⟨by decide +kernel, rfl⟩
theorem dX7_film_43 : St mX7_film 43 (.iload 6) 2 45 := ⟨by decide +kernel, rfl⟩
theorem dX7_film_45 : St mX7_film 45 (.ifCond .ge 6) 3 48 := ⟨by decide +kernel, rfl⟩
theorem dX7_film_48 : St mX7_film 48 (.iload 6) 2 50 := ⟨by decide +kernel, rfl⟩
theorem dX7_film_50 : St mX7_film 50 (.ireturn) 1 51 := ⟨by decide +kernel, rfl⟩
theorem dX7_film_51 : St mX7_film 51 (.aload_n 0) 1 52 := ⟨by decide +kernel, rfl⟩
theorem dX7_film_52 : St mX7_film 52 (.invokevirtual 184) 3 55 := ⟨by decide +kernel, rfl⟩
theorem dX7_film_55 : St mX7_film 55 (.iconst 0) 1 56 := ⟨by decide +kernel, rfl⟩
theorem dX7_film_56 : St mX7_film 56 (.istore 7) 2 58 := ⟨by decide +kernel, rfl⟩
theorem dX7_film_58 : St mX7_film 58 (.iload 7) 2 60 := ⟨by decide +kernel, rfl⟩
theorem dX7_film_60 : St mX7_film 60 (.iload_n 2) 1 61 := ⟨by decide +kernel, rfl⟩
theorem dX7_film_61 : St mX7_film 61 (.if_icmp .ge 44) 3 64 := ⟨by decide +kernel, rfl⟩
theorem dX7_film_64 : St mX7_film 64 (.aload_n 0) 1 65 := ⟨by decide +kernel, rfl⟩
theorem dX7_film_65 : St mX7_film 65 (.iconst 1) 1 66 := ⟨by decide +kernel, rfl⟩
theorem dX7_film_66 : St mX7_film 66 (.invokevirtual 187) 3 69 := ⟨by decide +kernel, rfl⟩
theorem dX7_film_69 : St mX7_film 69 (.aload_n 0) 1 70 := ⟨by decide +kernel, rfl⟩
theorem dX7_film_70 : St mX7_film 70 (.getfield 31) 3 73 := ⟨by decide +kernel, rfl⟩
theorem dX7_film_73 : St mX7_film 73 (.bipush 24) 2 75 := ⟨by decide +kernel, rfl⟩
theorem dX7_film_75 : St mX7_film 75 (.iload_n 3) 1 76 := ⟨by decide +kernel, rfl⟩
theorem dX7_film_76 : St mX7_film 76 (.imul) 1 77 := ⟨by decide +kernel, rfl⟩
theorem dX7_film_77 : St mX7_film 77 (.iload 5) 2 79 := ⟨by decide +kernel, rfl⟩
theorem dX7_film_79 : St mX7_film 79 (.iadd) 1 80 := ⟨by decide +kernel, rfl⟩
theorem dX7_film_80 : St mX7_film 80 (.iload 7) 2 82 := ⟨by decide +kernel, rfl⟩
theorem dX7_film_82 : St mX7_film 82 (.iadd) 1 83 := ⟨by decide +kernel, rfl⟩
theorem dX7_film_83 : St mX7_film 83 (.iload 4) 2 85 := ⟨by decide +kernel, rfl⟩
theorem dX7_film_85 : St mX7_film 85 (.aload_n 0) 1 86 := ⟨by decide +kernel, rfl⟩
theorem dX7_film_86 : St mX7_film 86 (.getfield 13) 3 89 := ⟨by decide +kernel, rfl⟩
theorem dX7_film_89 : St mX7_film 89 (.bipush 27) 2 91 := ⟨by decide +kernel, rfl⟩
theorem dX7_film_91 : St mX7_film 91 (.iload_n 1) 1 92 := ⟨by decide +kernel, rfl⟩
theorem dX7_film_92 : St mX7_film 92 (.iadd) 1 93 := ⟨by decide +kernel, rfl⟩
theorem dX7_film_93 : St mX7_film 93 (.iaload) 1 94 := ⟨by decide +kernel, rfl⟩
theorem dX7_film_94 : St mX7_film 94 (.i2l) 1 95 := ⟨by decide +kernel, rfl⟩
theorem dX7_film_95 : St mX7_film 95 (.invokestatic 214) 3 98 := ⟨by decide +kernel, rfl⟩
theorem dX7_film_98 : St mX7_film 98 (.lastore) 1 99 := ⟨by decide +kernel, rfl⟩
theorem dX7_film_99 : St mX7_film 99 (.iinc 7 1) 3 102 := ⟨by decide +kernel, rfl⟩
theorem dX7_film_102 : St mX7_film 102 (.goto (-44)) 3 105 := ⟨by decide +kernel, rfl⟩
theorem dX7_film_105 : St mX7_film 105 (.iload_n 2) 1 106 := ⟨by decide +kernel, rfl⟩
theorem dX7_film_106 : St mX7_film 106 (.ireturn) 1 107 := ⟨by decide +kernel, rfl⟩
theorem dX7_sheet_0 : St mX7_sheet 0 (.iload_n 1) 1 1 := ⟨by decide +kernel, rfl⟩
theorem dX7_sheet_1 : St mX7_sheet 1 (.iload_n 2) 1 2 := ⟨by decide +kernel, rfl⟩
theorem dX7_sheet_2 : St mX7_sheet 2 (.invokestatic 203) 3 5 := ⟨by decide +kernel, rfl⟩
theorem dX7_sheet_5 : St mX7_sheet 5 (.ifCond .eq 9) 3 8 := ⟨by decide +kernel, rfl⟩
theorem dX7_sheet_8 : St mX7_sheet 8 (.iload_n 3) 1 9 := ⟨by decide +kernel, rfl⟩
theorem dX7_sheet_9 : St mX7_sheet 9 (.bipush 24) 2 11 := ⟨by decide +kernel, rfl⟩
theorem dX7_sheet_11 : St mX7_sheet 11 (.if_icmp .le 5) 3 14 := ⟨by decide +kernel, rfl⟩
theorem dX7_sheet_14 : St mX7_sheet 14 (.iconst (-1)) 1 15 := ⟨by decide +kernel, rfl⟩
theorem dX7_sheet_15 : St mX7_sheet 15 (.ireturn) 1 16 := ⟨by decide +kernel, rfl⟩
theorem dX7_sheet_16 : St mX7_sheet 16 (.iload_n 3) 1 17 := ⟨by decide +kernel, rfl⟩
theorem dX7_sheet_17 : St mX7_sheet 17 (.ifCond .ge 6) 3 20 := ⟨by decide +kernel, rfl⟩
theorem dX7_sheet_20 : St mX7_sheet 20 (.bipush (-14)) 2 22 := ⟨by decide +kernel, rfl⟩
theorem dX7_sheet_22 : St mX7_sheet 22 (.ireturn) 1 23 := ⟨by decide +kernel, rfl⟩
theorem dX7_sheet_23 : St mX7_sheet 23 (.aload_n 0) 1 24 := ⟨by decide +kernel, rfl⟩
theorem dX7_sheet_24 : St mX7_sheet 24 (.getfield 28) 3 27 := ⟨by decide +kernel, rfl⟩
theorem dX7_sheet_27 : St mX7_sheet 27 (.iload_n 1) 1 28 := ⟨by decide +kernel, rfl⟩
theorem dX7_sheet_28 : St mX7_sheet 28 (.iload_n 3) 1 29 := ⟨by decide +kernel, rfl⟩
theorem dX7_sheet_29 : St mX7_sheet 29 (.iastore) 1 30 := ⟨by decide +kernel, rfl⟩
theorem dX7_sheet_30 : St mX7_sheet 30 (.aload_n 0) 1 31 := ⟨by decide +kernel, rfl⟩
theorem dX7_sheet_31 : St mX7_sheet 31 (.getfield 25) 3 34 := ⟨by decide +kernel, rfl⟩
theorem dX7_sheet_34 : St mX7_sheet 34 (.iload_n 1) 1 35 := ⟨by decide +kernel, rfl⟩
theorem dX7_sheet_35 : St mX7_sheet 35 (.iload_n 2) 1 36 := ⟨by decide +kernel, rfl⟩
theorem dX7_sheet_36 : St mX7_sheet 36 (.iastore) 1 37 := ⟨by decide +kernel, rfl⟩
theorem dX7_sheet_37 : St mX7_sheet 37 (.iconst 0) 1 38 := ⟨by decide +kernel, rfl⟩
theorem dX7_sheet_38 : St mX7_sheet 38 (.istore 4) 2 40 := ⟨by decide +kernel, rfl⟩
theorem dX7_sheet_40 : St mX7_sheet 40 (.iload 4) 2 42 := ⟨by decide +kernel, rfl⟩
theorem dX7_sheet_42 : St mX7_sheet 42 (.bipush 24) 2 44 := ⟨by decide +kernel, rfl⟩
theorem dX7_sheet_44 : St mX7_sheet 44 (.if_icmp .ge 22) 3 47 := ⟨by decide +kernel, rfl⟩
theorem dX7_sheet_47 : St mX7_sheet 47 (.aload_n 0) 1 48 := ⟨by decide +kernel, rfl⟩
theorem dX7_sheet_48 : St mX7_sheet 48 (.getfield 31) 3 51 := ⟨by decide +kernel, rfl⟩
theorem dX7_sheet_51 : St mX7_sheet 51 (.bipush 24) 2 53 := ⟨by decide +kernel, rfl⟩
theorem dX7_sheet_53 : St mX7_sheet 53 (.iload_n 1) 1 54 := ⟨by decide +kernel, rfl⟩
theorem dX7_sheet_54 : St mX7_sheet 54 (.imul) 1 55 := ⟨by decide +kernel, rfl⟩
theorem dX7_sheet_55 : St mX7_sheet 55 (.iload 4) 2 57 := ⟨by decide +kernel, rfl⟩
theorem dX7_sheet_57 : St mX7_sheet 57 (.iadd) 1 58 := ⟨by decide +kernel, rfl⟩
theorem dX7_sheet_58 : St mX7_sheet 58 (.lconst 0) 1 59 := ⟨by decide +kernel, rfl⟩
theorem dX7_sheet_59 : St mX7_sheet 59 (.lastore) 1 60 := ⟨by decide +kernel, rfl⟩
theorem dX7_sheet_60 : St mX7_sheet 60 (.iinc 4 1) 3 63 := ⟨by decide +kernel, rfl⟩
theorem dX7_sheet_63 : St mX7_sheet 63 (.goto (-23)) 3 66 := ⟨by decide +kernel, rfl⟩
theorem dX7_sheet_66 : St mX7_sheet 66 (.iload_n 3) 1 67 := ⟨by decide +kernel, rfl⟩
theorem dX7_sheet_67 : St mX7_sheet 67 (.ireturn) 1 68 := ⟨by decide +kernel, rfl⟩
theorem dX7_drop_0 : St mX7_drop 0 (.iload_n 1) 1 1 := ⟨by decide +kernel, rfl⟩
theorem dX7_drop_1 : St mX7_drop 1 (.i2l) 1 2 := ⟨by decide +kernel, rfl⟩
theorem dX7_drop_2 : St mX7_drop 2 (.lconst 0) 1 3 := ⟨by decide +kernel, rfl⟩
theorem dX7_drop_3 : St mX7_drop 3 (.ldc2_w 86) 3 6 := ⟨by decide +kernel, rfl⟩
theorem dX7_drop_6 : St mX7_drop 6 (.invokestatic 43) 3 9 := ⟨by decide +kernel, rfl⟩
theorem dX7_drop_9 : St mX7_drop 9 (.ifCond .ne 5) 3 12 := ⟨by decide +kernel, rfl⟩
theorem dX7_drop_12 : St mX7_drop 12 (.iconst (-1)) 1 13 := ⟨by decide +kernel, rfl⟩
theorem dX7_drop_13 : St mX7_drop 13 (.ireturn) 1 14 := ⟨by decide +kernel, rfl⟩
theorem dX7_drop_14 : St mX7_drop 14 (.aload_n 0) 1 15 := ⟨by decide +kernel, rfl⟩
theorem dX7_drop_15 : St mX7_drop 15 (.getfield 28) 3 18 := ⟨by decide +kernel, rfl⟩
theorem dX7_drop_18 : St mX7_drop 18 (.iload_n 1) 1 19 := ⟨by decide +kernel, rfl⟩
theorem dX7_drop_19 : St mX7_drop 19 (.iaload) 1 20 := ⟨by decide +kernel, rfl⟩
theorem dX7_drop_20 : St mX7_drop 20 (.ifCond .ge 6) 3 23 := ⟨by decide +kernel, rfl⟩
theorem dX7_drop_23 : St mX7_drop 23 (.bipush (-11)) 2 25 := ⟨by decide +kernel, rfl⟩
theorem dX7_drop_25 : St mX7_drop 25 (.ireturn) 1 26 := ⟨by decide +kernel, rfl⟩
theorem dX7_drop_26 : St mX7_drop 26 (.aload_n 0) 1 27 := ⟨by decide +kernel, rfl⟩
theorem dX7_drop_27 : St mX7_drop 27 (.getfield 28) 3 30 := ⟨by decide +kernel, rfl⟩
theorem dX7_drop_30 : St mX7_drop 30 (.iload_n 1) 1 31 := ⟨by decide +kernel, rfl⟩
theorem dX7_drop_31 : St mX7_drop 31 (.iaload) 1 32 := ⟨by decide +kernel, rfl⟩
theorem dX7_drop_32 : St mX7_drop 32 (.istore_n 2) 1 33 := ⟨by decide +kernel, rfl⟩
theorem dX7_drop_33 : St mX7_drop 33 (.aload_n 0) 1 34 := ⟨by decide +kernel, rfl⟩
theorem dX7_drop_34 : St mX7_drop 34 (.getfield 28) 3 37 := ⟨by decide +kernel, rfl⟩
theorem dX7_drop_37 : St mX7_drop 37 (.iload_n 1) 1 38 := ⟨by decide +kernel, rfl⟩
theorem dX7_drop_38 : St mX7_drop 38 (.iconst (-1)) 1 39 := ⟨by decide +kernel, rfl⟩
theorem dX7_drop_39 : St mX7_drop 39 (.iastore) 1 40 := ⟨by decide +kernel, rfl⟩
theorem dX7_drop_40 : St mX7_drop 40 (.iload_n 2) 1 41 := ⟨by decide +kernel, rfl⟩
theorem dX7_drop_41 : St mX7_drop 41 (.ireturn) 1 42 := ⟨by decide +kernel, rfl⟩
theorem dX7_item_0 : St mX7_item 0 (.iload_n 1) 1 1 := ⟨by decide +kernel, rfl⟩
theorem dX7_item_1 : St mX7_item 1 (.iload_n 2) 1 2 := ⟨by decide +kernel, rfl⟩
theorem dX7_item_2 : St mX7_item 2 (.invokestatic 203) 3 5 := ⟨by decide +kernel, rfl⟩
theorem dX7_item_5 : St mX7_item 5 (.ifCond .ne 5) 3 8 := ⟨by decide +kernel, rfl⟩
theorem dX7_item_8 : St mX7_item 8 (.iconst (-1)) 1 9 := ⟨by decide +kernel, rfl⟩
theorem dX7_item_9 : St mX7_item 9 (.ireturn) 1 10 := ⟨by decide +kernel, rfl⟩
theorem dX7_item_10 : St mX7_item 10 (.aload_n 0) 1 11 := ⟨by decide +kernel, rfl⟩
theorem dX7_item_11 : St mX7_item 11 (.iload_n 1) 1 12 := ⟨by decide +kernel, rfl⟩
theorem dX7_item_12 : St mX7_item 12 (.iload_n 2) 1 13 := ⟨by decide +kernel, rfl⟩
theorem dX7_item_13 : St mX7_item 13 (.iload_n 3) 1 14 := ⟨by decide +kernel, rfl⟩
theorem dX7_item_14 : St mX7_item 14 (.iconst 1) 1 15 := ⟨by decide +kernel, rfl⟩
theorem dX7_item_15 : St mX7_item 15 (.invokevirtual 208) 3 18 := ⟨by decide +kernel, rfl⟩
theorem dX7_item_18 : St mX7_item 18 (.istore 6) 2 20 := ⟨by decide +kernel, rfl⟩
theorem dX7_item_20 : St mX7_item 20 (.iload 6) 2 22 := ⟨by decide +kernel, rfl⟩
theorem dX7_item_22 : St mX7_item 22 (.ifCond .ge 6) 3 25 := ⟨by decide +kernel, rfl⟩
theorem dX7_item_25 : St mX7_item 25 (.iload 6) 2 27 := ⟨by decide +kernel, rfl⟩
theorem dX7_item_27 : St mX7_item 27 (.ireturn) 1 28 := ⟨by decide +kernel, rfl⟩
theorem dX7_item_28 : St mX7_item 28 (.aload_n 0) 1 29 := ⟨by decide +kernel, rfl⟩
theorem dX7_item_29 : St mX7_item 29 (.getfield 31) 3 32 := ⟨by decide +kernel, rfl⟩
theorem dX7_item_32 : St mX7_item 32 (.bipush 24) 2 34 := ⟨by decide +kernel, rfl⟩
theorem dX7_item_34 : St mX7_item 34 (.iload_n 1) 1 35 := ⟨by decide +kernel, rfl⟩
theorem dX7_item_35 : St mX7_item 35 (.imul) 1 36 := ⟨by decide +kernel, rfl⟩
theorem dX7_item_36 : St mX7_item 36 (.iload_n 3) 1 37 := ⟨by decide +kernel, rfl⟩
theorem dX7_item_37 : St mX7_item 37 (.iadd) 1 38 := ⟨by decide +kernel, rfl⟩
theorem dX7_item_38 : St mX7_item 38 (.iload_n 2) 1 39 := ⟨by decide +kernel, rfl⟩
theorem dX7_item_39 : St mX7_item 39 (.lload 4) 2 41 := ⟨by decide +kernel, rfl⟩
theorem dX7_item_41 : St mX7_item 41 (.invokestatic 214) 3 44 := ⟨by decide +kernel, rfl⟩
theorem dX7_item_44 : St mX7_item 44 (.lastore) 1 45 := ⟨by decide +kernel, rfl⟩
theorem dX7_item_45 : St mX7_item 45 (.iconst 1) 1 46 := ⟨by decide +kernel, rfl⟩
theorem dX7_item_46 : St mX7_item 46 (.ireturn) 1 47 := ⟨by decide +kernel, rfl⟩
theorem dX7_copy_0 : St mX7_copy 0 (.iload_n 1) 1 1 := ⟨by decide +kernel, rfl⟩
theorem dX7_copy_1 : St mX7_copy 1 (.i2l) 1 2 := ⟨by decide +kernel, rfl⟩
theorem dX7_copy_2 : St mX7_copy 2 (.lconst 0) 1 3 := ⟨by decide +kernel, rfl⟩
theorem dX7_copy_3 : St mX7_copy 3 (.ldc2_w 86) 3 6 := ⟨by decide +kernel, rfl⟩
theorem dX7_copy_6 : St mX7_copy 6 (.invokestatic 43) 3 9 := ⟨by decide +kernel, rfl⟩
theorem dX7_copy_9 : St mX7_copy 9 (.ifCond .eq 15) 3 12 := ⟨by decide +kernel, rfl⟩
theorem dX7_copy_12 : St mX7_copy 12 (.iload_n 3) 1 13 := ⟨by decide +kernel, rfl⟩
theorem dX7_copy_13 : St mX7_copy 13 (.i2l) 1 14 := ⟨by decide +kernel, rfl⟩
theorem dX7_copy_14 : St mX7_copy 14 (.lconst 0) 1 15 := ⟨by decide +kernel, rfl⟩
theorem dX7_copy_15 : St mX7_copy 15 (.ldc2_w 86) 3 18 := ⟨by decide +kernel, rfl⟩
theorem dX7_copy_18 : St mX7_copy 18 (.invokestatic 43) 3 21 := ⟨by decide +kernel, rfl⟩
theorem dX7_copy_21 : St mX7_copy 21 (.ifCond .ne 5) 3 24 := ⟨by decide +kernel, rfl⟩
theorem dX7_copy_24 : St mX7_copy 24 (.iconst (-1)) 1 25 := ⟨by decide +kernel, rfl⟩
theorem dX7_copy_25 : St mX7_copy 25 (.ireturn) 1 26 := ⟨by decide +kernel, rfl⟩
theorem dX7_copy_26 : St mX7_copy 26 (.aload_n 0) 1 27 := ⟨by decide +kernel, rfl⟩
theorem dX7_copy_27 : St mX7_copy 27 (.getfield 28) 3 30 := ⟨by decide +kernel, rfl⟩
theorem dX7_copy_30 : St mX7_copy 30 (.iload_n 1) 1 31 := ⟨by decide +kernel, rfl⟩
theorem dX7_copy_31 : St mX7_copy 31 (.iaload) 1 32 := ⟨by decide +kernel, rfl⟩
theorem dX7_copy_32 : St mX7_copy 32 (.ifCond .lt 12) 3 35 := ⟨by decide +kernel, rfl⟩
theorem dX7_copy_35 : St mX7_copy 35 (.aload_n 0) 1 36 := ⟨by decide +kernel, rfl⟩
theorem dX7_copy_36 : St mX7_copy 36 (.getfield 28) 3 39 := ⟨by decide +kernel, rfl⟩
theorem dX7_copy_39 : St mX7_copy 39 (.iload_n 3) 1 40 := ⟨by decide +kernel, rfl⟩
theorem dX7_copy_40 : St mX7_copy 40 (.iaload) 1 41 := ⟨by decide +kernel, rfl⟩
theorem dX7_copy_41 : St mX7_copy 41 (.ifCond .ge 6) 3 44 := ⟨by decide +kernel, rfl⟩
theorem dX7_copy_44 : St mX7_copy 44 (.bipush (-11)) 2 46 := ⟨by decide +kernel, rfl⟩
theorem dX7_copy_46 : St mX7_copy 46 (.ireturn) 1 47 := ⟨by decide +kernel, rfl⟩
theorem dX7_copy_47 : St mX7_copy 47 (.aload_n 0) 1 48 := ⟨by decide +kernel, rfl⟩
theorem dX7_copy_48 : St mX7_copy 48 (.getfield 25) 3 51 := ⟨by decide +kernel, rfl⟩
theorem dX7_copy_51 : St mX7_copy 51 (.iload_n 1) 1 52 := ⟨by decide +kernel, rfl⟩
theorem dX7_copy_52 : St mX7_copy 52 (.iaload) 1 53 := ⟨by decide +kernel, rfl⟩
theorem dX7_copy_53 : St mX7_copy 53 (.aload_n 0) 1 54 := ⟨by decide +kernel, rfl⟩
theorem dX7_copy_54 : St mX7_copy 54 (.getfield 25) 3 57 := ⟨by decide +kernel, rfl⟩
theorem dX7_copy_57 : St mX7_copy 57 (.iload_n 3) 1 58 := ⟨by decide +kernel, rfl⟩
theorem dX7_copy_58 : St mX7_copy 58 (.iaload) 1 59 := ⟨by decide +kernel, rfl⟩
theorem dX7_copy_59 : St mX7_copy 59 (.if_icmp .eq 6) 3 62 := ⟨by decide +kernel, rfl⟩
theorem dX7_copy_62 : St mX7_copy 62 (.bipush (-12)) 2 64 := ⟨by decide +kernel, rfl⟩
theorem dX7_copy_64 : St mX7_copy 64 (.ireturn) 1 65 := ⟨by decide +kernel, rfl⟩
theorem dX7_copy_65 : St mX7_copy 65 (.iload 5) 2 67 := ⟨by decide +kernel, rfl⟩
theorem dX7_copy_67 : St mX7_copy 67 (.ifCond .lt 38) 3 70 := ⟨by decide +kernel, rfl⟩
theorem dX7_copy_70 : St mX7_copy 70 (.aload_n 0) 1 71 := ⟨by decide +kernel, rfl⟩
theorem dX7_copy_71 : St mX7_copy 71 (.iload_n 1) 1 72 := ⟨by decide +kernel, rfl⟩
theorem dX7_copy_72 : St mX7_copy 72 (.aload_n 0) 1 73 := ⟨by decide +kernel, rfl⟩
theorem dX7_copy_73 : St mX7_copy 73 (.getfield 25) 3 76 := ⟨by decide +kernel, rfl⟩
theorem dX7_copy_76 : St mX7_copy 76 (.iload_n 1) 1 77 := ⟨by decide +kernel, rfl⟩
theorem dX7_copy_77 : St mX7_copy 77 (.iaload) 1 78 := ⟨by decide +kernel, rfl⟩
theorem dX7_copy_78 : St mX7_copy 78 (.iload_n 2) 1 79 := ⟨by decide +kernel, rfl⟩
theorem dX7_copy_79 : St mX7_copy 79 (.iload 5) 2 81 := ⟨by decide +kernel, rfl⟩
theorem dX7_copy_81 : St mX7_copy 81 (.invokevirtual 208) 3 84 := ⟨by decide +kernel, rfl⟩
theorem dX7_copy_84 : St mX7_copy 84 (.ifCond .lt 21) 3 87 := ⟨by decide +kernel, rfl⟩
theorem dX7_copy_87 : St mX7_copy 87 (.aload_n 0) 1 88 := ⟨by decide +kernel, rfl⟩
theorem dX7_copy_88 : St mX7_copy 88 (.iload_n 3) 1 89 := ⟨by decide +kernel, rfl⟩
theorem dX7_copy_89 : St mX7_copy 89 (.aload_n 0) 1 90 := ⟨by decide +kernel, rfl⟩
theorem dX7_copy_90 : St mX7_copy 90 (.getfield 25) 3 93 := ⟨by decide +kernel, rfl⟩
theorem dX7_copy_93 : St mX7_copy 93 (.iload_n 3) 1 94 := ⟨by decide +kernel, rfl⟩
theorem dX7_copy_94 : St mX7_copy 94 (.iaload) 1 95 := ⟨by decide +kernel, rfl⟩
theorem dX7_copy_95 : St mX7_copy 95 (.iload 4) 2 97 := ⟨by decide +kernel, rfl⟩
theorem dX7_copy_97 : St mX7_copy 97 (.iload 5) 2 99 := ⟨by decide +kernel, rfl⟩
theorem dX7_copy_99 : St mX7_copy 99 (.invokevirtual 208) 3 102 := ⟨by decide +kernel, rfl⟩
theorem dX7_copy_102 : St mX7_copy 102 (.ifCond .ge 6) 3 105 := ⟨by decide +kernel, rfl⟩
theorem dX7_copy_105 : St mX7_copy 105 (.bipush (-13)) 2 107 := ⟨by decide +kernel, rfl⟩
theorem dX7_copy_107 : St mX7_copy 107 (.ireturn) 1 108 := ⟨by decide +kernel, rfl⟩
theorem dX7_copy_108 : St mX7_copy 108 (.iconst 0) 1 109 := ⟨by decide +kernel, rfl⟩
theorem dX7_copy_109 : St mX7_copy 109 (.istore 6) 2 111 := ⟨by decide +kernel, rfl⟩
theorem dX7_copy_111 : St mX7_copy 111 (.iload 6) 2 113 := ⟨by decide +kernel, rfl⟩
theorem dX7_copy_113 : St mX7_copy 113 (.iload 5) 2 115 := ⟨by decide +kernel, rfl⟩
theorem dX7_copy_115 : St mX7_copy 115 (.if_icmp .ge 58) 3 118 := ⟨by decide +kernel, rfl⟩
theorem dX7_copy_118 : St mX7_copy 118 (.iload 4) 2 120 := ⟨by decide +kernel, rfl⟩
theorem dX7_copy_120 : St mX7_copy 120 (.iload_n 2) 1 121 := ⟨by decide +kernel, rfl⟩
theorem dX7_copy_121 : St mX7_copy 121 (.if_icmp .le 13) 3 124 := ⟨by decide +kernel, rfl⟩
theorem dX7_copy_124 : St mX7_copy 124 (.iload 5) 2 126 := ⟨by decide +kernel, rfl⟩
theorem dX7_copy_126 : St mX7_copy 126 (.iconst 1) 1 127 := ⟨by decide +kernel, rfl⟩
theorem dX7_copy_127 : St mX7_copy 127 (.isub) 1 128 := ⟨by decide +kernel, rfl⟩
theorem dX7_copy_128 : St mX7_copy 128 (.iload 6) 2 130 := ⟨by decide +kernel, rfl⟩
theorem dX7_copy_130 : St mX7_copy 130 (.isub) 1 131 := ⟨by decide +kernel, rfl⟩
theorem dX7_copy_131 : St mX7_copy 131 (.goto 5) 3 134 := ⟨by decide +kernel, rfl⟩
theorem dX7_copy_134 : St mX7_copy 134 (.iload 6) 2 136 := ⟨by decide +kernel, rfl⟩
theorem dX7_copy_136 : St mX7_copy 136 (.istore 7) 2 138 := ⟨by decide +kernel, rfl⟩
theorem dX7_copy_138 : St mX7_copy 138 (.aload_n 0) 1 139 := ⟨by decide +kernel, rfl⟩
theorem dX7_copy_139 : St mX7_copy 139 (.getfield 31) 3 142 := ⟨by decide +kernel, rfl⟩
theorem dX7_copy_142 : St mX7_copy 142 (.bipush 24) 2 144 := ⟨by decide +kernel, rfl⟩
theorem dX7_copy_144 : St mX7_copy 144 (.iload_n 3) 1 145 := ⟨by decide +kernel, rfl⟩
theorem dX7_copy_145 : St mX7_copy 145 (.imul) 1 146 := ⟨by decide +kernel, rfl⟩
theorem dX7_copy_146 : St mX7_copy 146 (.iload 4) 2 148 := ⟨by decide +kernel, rfl⟩
theorem dX7_copy_148 : St mX7_copy 148 (.iadd) 1 149 := ⟨by decide +kernel, rfl⟩
theorem dX7_copy_149 : St mX7_copy 149 (.iload 7) 2 151 := ⟨by decide +kernel, rfl⟩
theorem dX7_copy_151 : St mX7_copy 151 (.iadd) 1 152 := ⟨by decide +kernel, rfl⟩
theorem dX7_copy_152 : St mX7_copy 152 (.aload_n 0) 1 153 := ⟨by decide +kernel, rfl⟩
theorem dX7_copy_153 : St mX7_copy 153 (.getfield 31) 3 156 := ⟨by decide +kernel, rfl⟩
theorem dX7_copy_156 : St mX7_copy 156 (.bipush 24) 2 158 := ⟨by decide +kernel, rfl⟩
theorem dX7_copy_158 : St mX7_copy 158 (.iload_n 1) 1 159 := ⟨by decide +kernel, rfl⟩
theorem dX7_copy_159 : St mX7_copy 159 (.imul) 1 160 := ⟨by decide +kernel, rfl⟩
theorem dX7_copy_160 : St mX7_copy 160 (.iload_n 2) 1 161 := ⟨by decide +kernel, rfl⟩
theorem dX7_copy_161 : St mX7_copy 161 (.iadd) 1 162 := ⟨by decide +kernel, rfl⟩
theorem dX7_copy_162 : St mX7_copy 162 (.iload 7) 2 164 := ⟨by decide +kernel, rfl⟩
theorem dX7_copy_164 : St mX7_copy 164 (.iadd) 1 165 := ⟨by decide +kernel, rfl⟩
theorem dX7_copy_165 : St mX7_copy 165 (.laload) 1 166 := ⟨by decide +kernel, rfl⟩
theorem dX7_copy_166 : St mX7_copy 166 (.lastore) 1 167 := ⟨by decide +kernel, rfl⟩
theorem dX7_copy_167 : St mX7_copy 167 (.iinc 6 1) 3 170 := ⟨by decide +kernel, rfl⟩
theorem dX7_copy_170 : St mX7_copy 170 (.goto (-59)) 3 173 := ⟨by decide +kernel, rfl⟩
theorem dX7_copy_173 : St mX7_copy 173 (.iload 5) 2 175 := ⟨by decide +kernel, rfl⟩
theorem dX7_copy_175 : St mX7_copy 175 (.ireturn) 1 176 := ⟨by decide +kernel, rfl⟩
end
section
theorem dL_law_0 : St mL_law 0 (.new 7) 3 3 := ⟨by decide +kernel, rfl⟩
theorem dL_law_3 : St mL_law 3 (.dup) 1 4 := ⟨by decide +kernel, rfl⟩
theorem dL_law_4 : St mL_law 4 (.invokespecial 9) 3 7 := ⟨by decide +kernel, rfl⟩
theorem dL_law_7 : St mL_law 7 (.astore_n 1) 1 8 := ⟨by decide +kernel, rfl⟩
theorem dL_law_8 : St mL_law 8 (.new 10) 3 11 := ⟨by decide +kernel, rfl⟩
theorem dL_law_11 : St mL_law 11 (.dup) 1 12 := ⟨by decide +kernel, rfl⟩
theorem dL_law_12 : St mL_law 12 (.invokespecial 12) 3 15 := ⟨by decide +kernel, rfl⟩
theorem dL_law_15 : St mL_law 15 (.astore_n 2) 1 16 := ⟨by decide +kernel, rfl⟩
theorem dL_law_16 : St mL_law 16 (.iconst 0) 1 17 := ⟨by decide +kernel, rfl⟩
theorem dL_law_17 : St mL_law 17 (.istore_n 3) 1 18 := ⟨by decide +kernel, rfl⟩
theorem dL_law_18 : St mL_law 18 (.iload_n 3) 1 19 := ⟨by decide +kernel, rfl⟩
theorem dL_law_19 : St mL_law 19 (.aload_n 0) 1 20 := ⟨by decide +kernel, rfl⟩
theorem dL_law_20 : St mL_law 20 (.arraylength) 1 21 := ⟨by decide +kernel, rfl⟩
theorem dL_law_21 : St mL_law 21 (.bipush 7) 2 23 := ⟨by decide +kernel, rfl⟩
theorem dL_law_23 : St mL_law 23 (.isub) 1 24 := ⟨by decide +kernel, rfl⟩
theorem dL_law_24 : St mL_law 24 (.if_icmp .gt 1159) 3 27 := ⟨by decide +kernel, rfl⟩
theorem dL_law_27 : St mL_law 27 (.aload_n 0) 1 28 := ⟨by decide +kernel, rfl⟩
theorem dL_law_28 : St mL_law 28 (.iload_n 3) 1 29 := ⟨by decide +kernel, rfl⟩
theorem dL_law_29 : St mL_law 29 (.iaload) 1 30 := ⟨by decide +kernel, rfl⟩
theorem dL_law_30 : St mL_law 30 (.bipush 31) 2 32 := ⟨by decide +kernel, rfl⟩
theorem dL_law_32 : St mL_law 32 (.iand) 1 33 := ⟨by decide +kernel, rfl⟩
theorem dL_law_33 : St mL_law 33 (.tableswitch 1144 0 30 #[139, 172, 205, 238, 271, 304, 327, 340, 363, 386, 409, 452, 485, 508, 531, 554, 567, 590, 633, 646, 679, 712, 745, 768, 781, 794, 869, 932, 975, 998, 1081]) 139 172 := ⟨by decide +kernel, rfl⟩
theorem dL_law_172 : St mL_law 172 (.aload_n 1) 1 173 := ⟨by decide +kernel, rfl⟩
theorem dL_law_173 : St mL_law 173 (.aload_n 0) 1 174 := ⟨by decide +kernel, rfl⟩
theorem dL_law_174 : St mL_law 174 (.iload_n 3) 1 175 := ⟨by decide +kernel, rfl⟩
theorem dL_law_175 : St mL_law 175 (.iconst 1) 1 176 := ⟨by decide +kernel, rfl⟩
theorem dL_law_176 : St mL_law 176 (.iadd) 1 177 := ⟨by decide +kernel, rfl⟩
theorem dL_law_177 : St mL_law 177 (.iaload) 1 178 := ⟨by decide +kernel, rfl⟩
theorem dL_law_178 : St mL_law 178 (.aload_n 0) 1 179 := ⟨by decide +kernel, rfl⟩
theorem dL_law_179 : St mL_law 179 (.iload_n 3) 1 180 := ⟨by decide +kernel, rfl⟩
theorem dL_law_180 : St mL_law 180 (.iconst 2) 1 181 := ⟨by decide +kernel, rfl⟩
theorem dL_law_181 : St mL_law 181 (.iadd) 1 182 := ⟨by decide +kernel, rfl⟩
theorem dL_law_182 : St mL_law 182 (.iaload) 1 183 := ⟨by decide +kernel, rfl⟩
theorem dL_law_183 : St mL_law 183 (.invokevirtual 13) 3 186 := ⟨by decide +kernel, rfl⟩
theorem dL_law_186 : St mL_law 186 (.aload_n 2) 1 187 := ⟨by decide +kernel, rfl⟩
theorem dL_law_187 : St mL_law 187 (.aload_n 0) 1 188 := ⟨by decide +kernel, rfl⟩
theorem dL_law_188 : St mL_law 188 (.iload_n 3) 1 189 := ⟨by decide +kernel, rfl⟩
theorem dL_law_189 : St mL_law 189 (.iconst 1) 1 190 := ⟨by decide +kernel, rfl⟩
theorem dL_law_190 : St mL_law 190 (.iadd) 1 191 := ⟨by decide +kernel, rfl⟩
theorem dL_law_191 : St mL_law 191 (.iaload) 1 192 := ⟨by decide +kernel, rfl⟩
theorem dL_law_192 : St mL_law 192 (.aload_n 0) 1 193 := ⟨by decide +kernel, rfl⟩
theorem dL_law_193 : St mL_law 193 (.iload_n 3) 1 194 := ⟨by decide +kernel, rfl⟩
theorem dL_law_194 : St mL_law 194 (.iconst 2) 1 195 := ⟨by decide +kernel, rfl⟩
theorem dL_law_195 : St mL_law 195 (.iadd) 1 196 := ⟨by decide +kernel, rfl⟩
theorem dL_law_196 : St mL_law 196 (.iaload) 1 197 := ⟨by decide +kernel, rfl⟩
theorem dL_law_197 : St mL_law 197 (.invokevirtual 17) 3 200 := ⟨by decide +kernel, rfl⟩
theorem dL_law_200 : St mL_law 200 (.if_icmp .eq 977) 3 203 := ⟨by decide +kernel, rfl⟩
theorem dL_law_203 : St mL_law 203 (.iconst 0) 1 204 := ⟨by decide +kernel, rfl⟩
theorem dL_law_204 : St mL_law 204 (.ireturn) 1 205 := ⟨by decide +kernel, rfl⟩
theorem dL_law_205 : St mL_law 205 (.aload_n 1) 1 206 := ⟨by decide +kernel, rfl⟩
theorem dL_law_206 : St mL_law 206 (.aload_n 0) 1 207 := ⟨by decide +kernel, rfl⟩
theorem dL_law_207 : St mL_law 207 (.iload_n 3) 1 208 := ⟨by decide +kernel, rfl⟩
theorem dL_law_208 : St mL_law 208 (.iconst 1) 1 209 := ⟨by decide +kernel, rfl⟩
theorem dL_law_209 : St mL_law 209 (.iadd) 1 210 := ⟨by decide +kernel, rfl⟩
theorem dL_law_210 : St mL_law 210 (.iaload) 1 211 := ⟨by decide +kernel, rfl⟩
theorem dL_law_211 : St mL_law 211 (.aload_n 0) 1 212 := ⟨by decide +kernel, rfl⟩
theorem dL_law_212 : St mL_law 212 (.iload_n 3) 1 213 := ⟨by decide +kernel, rfl⟩
theorem dL_law_213 : St mL_law 213 (.iconst 2) 1 214 := ⟨by decide +kernel, rfl⟩
theorem dL_law_214 : St mL_law 214 (.iadd) 1 215 := ⟨by decide +kernel, rfl⟩
theorem dL_law_215 : St mL_law 215 (.iaload) 1 216 := ⟨by decide +kernel, rfl⟩
theorem dL_law_216 : St mL_law 216 (.invokevirtual 18) 3 219 := ⟨by decide +kernel, rfl⟩
theorem dL_law_219 : St mL_law 219 (.aload_n 2) 1 220 := ⟨by decide +kernel, rfl⟩
theorem dL_law_220 : St mL_law 220 (.aload_n 0) 1 221 := ⟨by decide +kernel, rfl⟩
theorem dL_law_221 : St mL_law 221 (.iload_n 3) 1 222 := ⟨by decide +kernel, rfl⟩
theorem dL_law_222 : St mL_law 222 (.iconst 1) 1 223 := ⟨by decide +kernel, rfl⟩
theorem dL_law_223 : St mL_law 223 (.iadd) 1 224 := ⟨by decide +kernel, rfl⟩
theorem dL_law_224 : St mL_law 224 (.iaload) 1 225 := ⟨by decide +kernel, rfl⟩
theorem dL_law_225 : St mL_law 225 (.aload_n 0) 1 226 := ⟨by decide +kernel, rfl⟩
theorem dL_law_226 : St mL_law 226 (.iload_n 3) 1 227 := ⟨by decide +kernel, rfl⟩
theorem dL_law_227 : St mL_law 227 (.iconst 2) 1 228 := ⟨by decide +kernel, rfl⟩
theorem dL_law_228 : St mL_law 228 (.iadd) 1 229 := ⟨by decide +kernel, rfl⟩
theorem dL_law_229 : St mL_law 229 (.iaload) 1 230 := ⟨by decide +kernel, rfl⟩
theorem dL_law_230 : St mL_law 230 (.invokevirtual 21) 3 233 := ⟨by decide +kernel, rfl⟩
theorem dL_law_233 : St mL_law 233 (.if_icmp .eq 944) 3 236 := ⟨by decide +kernel, rfl⟩
theorem dL_law_236 : St mL_law 236 (.iconst 0) 1 237 := ⟨by decide +kernel, rfl⟩
theorem dL_law_237 : St mL_law 237 (.ireturn) 1 238 := ⟨by decide +kernel, rfl⟩
theorem dL_law_238 : St mL_law 238 (.aload_n 1) 1 239 := ⟨by decide +kernel, rfl⟩
theorem dL_law_239 : St mL_law 239 (.aload_n 0) 1 240 := ⟨by decide +kernel, rfl⟩
theorem dL_law_240 : St mL_law 240 (.iload_n 3) 1 241 := ⟨by decide +kernel, rfl⟩
theorem dL_law_241 : St mL_law 241 (.iconst 1) 1 242 := ⟨by decide +kernel, rfl⟩
theorem dL_law_242 : St mL_law 242 (.iadd) 1 243 := ⟨by decide +kernel, rfl⟩
theorem dL_law_243 : St mL_law 243 (.iaload) 1 244 := ⟨by decide +kernel, rfl⟩
theorem dL_law_244 : St mL_law 244 (.aload_n 0) 1 245 := ⟨by decide +kernel, rfl⟩
theorem dL_law_245 : St mL_law 245 (.iload_n 3) 1 246 := ⟨by decide +kernel, rfl⟩
theorem dL_law_246 : St mL_law 246 (.iconst 2) 1 247 := ⟨by decide +kernel, rfl⟩
theorem dL_law_247 : St mL_law 247 (.iadd) 1 248 := ⟨by decide +kernel, rfl⟩
theorem dL_law_248 : St mL_law 248 (.iaload) 1 249 := ⟨by decide +kernel, rfl⟩
theorem dL_law_249 : St mL_law 249 (.invokevirtual 22) 3 252 := ⟨by decide +kernel, rfl⟩
theorem dL_law_252 : St mL_law 252 (.aload_n 2) 1 253 := ⟨by decide +kernel, rfl⟩
theorem dL_law_253 : St mL_law 253 (.aload_n 0) 1 254 := ⟨by decide +kernel, rfl⟩
theorem dL_law_254 : St mL_law 254 (.iload_n 3) 1 255 := ⟨by decide +kernel, rfl⟩
theorem dL_law_255 : St mL_law 255 (.iconst 1) 1 256 := ⟨by decide +kernel, rfl⟩
theorem dL_law_256 : St mL_law 256 (.iadd) 1 257 := ⟨by decide +kernel, rfl⟩
theorem dL_law_257 : St mL_law 257 (.iaload) 1 258 := ⟨by decide +kernel, rfl⟩
theorem dL_law_258 : St mL_law 258 (.aload_n 0) 1 259 := ⟨by decide +kernel, rfl⟩
theorem dL_law_259 : St mL_law 259 (.iload_n 3) 1 260 := ⟨by decide +kernel, rfl⟩
theorem dL_law_260 : St mL_law 260 (.iconst 2) 1 261 := ⟨by decide +kernel, rfl⟩
theorem dL_law_261 : St mL_law 261 (.iadd) 1 262 := ⟨by decide +kernel, rfl⟩
theorem dL_law_262 : St mL_law 262 (.iaload) 1 263 := ⟨by decide +kernel, rfl⟩
theorem dL_law_263 : St mL_law 263 (.invokevirtual 25) 3 266 := ⟨by decide +kernel, rfl⟩
theorem dL_law_266 : St mL_law 266 (.if_icmp .eq 911) 3 269 := ⟨by decide +kernel, rfl⟩
theorem dL_law_269 : St mL_law 269 (.iconst 0) 1 270 := ⟨by decide +kernel, rfl⟩
theorem dL_law_270 : St mL_law 270 (.ireturn) 1 271 := ⟨by decide +kernel, rfl⟩
theorem dL_law_271 : St mL_law 271 (.aload_n 1) 1 272 := ⟨by decide +kernel, rfl⟩
theorem dL_law_272 : St mL_law 272 (.aload_n 0) 1 273 := ⟨by decide +kernel, rfl⟩
theorem dL_law_273 : St mL_law 273 (.iload_n 3) 1 274 := ⟨by decide +kernel, rfl⟩
theorem dL_law_274 : St mL_law 274 (.iconst 1) 1 275 := ⟨by decide +kernel, rfl⟩
theorem dL_law_275 : St mL_law 275 (.iadd) 1 276 := ⟨by decide +kernel, rfl⟩
theorem dL_law_276 : St mL_law 276 (.iaload) 1 277 := ⟨by decide +kernel, rfl⟩
theorem dL_law_277 : St mL_law 277 (.aload_n 0) 1 278 := ⟨by decide +kernel, rfl⟩
theorem dL_law_278 : St mL_law 278 (.iload_n 3) 1 279 := ⟨by decide +kernel, rfl⟩
theorem dL_law_279 : St mL_law 279 (.iconst 2) 1 280 := ⟨by decide +kernel, rfl⟩
theorem dL_law_280 : St mL_law 280 (.iadd) 1 281 := ⟨by decide +kernel, rfl⟩
theorem dL_law_281 : St mL_law 281 (.iaload) 1 282 := ⟨by decide +kernel, rfl⟩
theorem dL_law_282 : St mL_law 282 (.invokevirtual 26) 3 285 := ⟨by decide +kernel, rfl⟩
theorem dL_law_285 : St mL_law 285 (.aload_n 2) 1 286 := ⟨by decide +kernel, rfl⟩
theorem dL_law_286 : St mL_law 286 (.aload_n 0) 1 287 := ⟨by decide +kernel, rfl⟩
theorem dL_law_287 : St mL_law 287 (.iload_n 3) 1 288 := ⟨by decide +kernel, rfl⟩
theorem dL_law_288 : St mL_law 288 (.iconst 1) 1 289 := ⟨by decide +kernel, rfl⟩
theorem dL_law_289 : St mL_law 289 (.iadd) 1 290 := ⟨by decide +kernel, rfl⟩
theorem dL_law_290 : St mL_law 290 (.iaload) 1 291 := ⟨by decide +kernel, rfl⟩
theorem dL_law_291 : St mL_law 291 (.aload_n 0) 1 292 := ⟨by decide +kernel, rfl⟩
theorem dL_law_292 : St mL_law 292 (.iload_n 3) 1 293 := ⟨by decide +kernel, rfl⟩
theorem dL_law_293 : St mL_law 293 (.iconst 2) 1 294 := ⟨by decide +kernel, rfl⟩
theorem dL_law_294 : St mL_law 294 (.iadd) 1 295 := ⟨by decide +kernel, rfl⟩
theorem dL_law_295 : St mL_law 295 (.iaload) 1 296 := ⟨by decide +kernel, rfl⟩
theorem dL_law_296 : St mL_law 296 (.invokevirtual 29) 3 299 := ⟨by decide +kernel, rfl⟩
theorem dL_law_299 : St mL_law 299 (.if_icmp .eq 878) 3 302 := ⟨by decide +kernel, rfl⟩
theorem dL_law_302 : St mL_law 302 (.iconst 0) 1 303 := ⟨by decide +kernel, rfl⟩
theorem dL_law_303 : St mL_law 303 (.ireturn) 1 304 := ⟨by decide +kernel, rfl⟩
theorem dL_law_304 : St mL_law 304 (.aload_n 1) 1 305 := ⟨by decide +kernel, rfl⟩
theorem dL_law_305 : St mL_law 305 (.aload_n 0) 1 306 := ⟨by decide +kernel, rfl⟩
theorem dL_law_306 : St mL_law 306 (.iload_n 3) 1 307 := ⟨by decide +kernel, rfl⟩
theorem dL_law_307 : St mL_law 307 (.iconst 1) 1 308 := ⟨by decide +kernel, rfl⟩
theorem dL_law_308 : St mL_law 308 (.iadd) 1 309 := ⟨by decide +kernel, rfl⟩
theorem dL_law_309 : St mL_law 309 (.iaload) 1 310 := ⟨by decide +kernel, rfl⟩
theorem dL_law_310 : St mL_law 310 (.aload_n 0) 1 311 := ⟨by decide +kernel, rfl⟩
theorem dL_law_311 : St mL_law 311 (.iload_n 3) 1 312 := ⟨by decide +kernel, rfl⟩
theorem dL_law_312 : St mL_law 312 (.iconst 2) 1 313 := ⟨by decide +kernel, rfl⟩
theorem dL_law_313 : St mL_law 313 (.iadd) 1 314 := ⟨by decide +kernel, rfl⟩
theorem dL_law_314 : St mL_law 314 (.iaload) 1 315 := ⟨by decide +kernel, rfl⟩
theorem dL_law_315 : St mL_law 315 (.invokevirtual 30) 3 318 := ⟨by decide +kernel, rfl⟩
theorem dL_law_318 : St mL_law 318 (.aload_n 2) 1 319 := ⟨by decide +kernel, rfl⟩
theorem dL_law_319 : St mL_law 319 (.aload_n 0) 1 320 := ⟨by decide +kernel, rfl⟩
theorem dL_law_320 : St mL_law 320 (.iload_n 3) 1 321 := ⟨by decide +kernel, rfl⟩
theorem dL_law_321 : St mL_law 321 (.iconst 1) 1 322 := ⟨by decide +kernel, rfl⟩
theorem dL_law_322 : St mL_law 322 (.iadd) 1 323 := ⟨by decide +kernel, rfl⟩
theorem dL_law_323 : St mL_law 323 (.iaload) 1 324 := ⟨by decide +kernel, rfl⟩
theorem dL_law_324 : St mL_law 324 (.aload_n 0) 1 325 := ⟨by decide +kernel, rfl⟩
theorem dL_law_325 : St mL_law 325 (.iload_n 3) 1 326 := ⟨by decide +kernel, rfl⟩
theorem dL_law_326 : St mL_law 326 (.iconst 2) 1 327 := ⟨by decide +kernel, rfl⟩
theorem dL_law_327 : St mL_law 327 (.iadd) 1 328 := ⟨by decide +kernel, rfl⟩
theorem dL_law_328 : St mL_law 328 (.iaload) 1 329 := ⟨by decide +kernel, rfl⟩
theorem dL_law_329 : St mL_law 329 (.invokevirtual 33) 3 332 := ⟨by decide +kernel, rfl⟩
theorem dL_law_332 : St mL_law 332 (.if_icmp .eq 845) 3 335 := ⟨by decide +kernel, rfl⟩
theorem dL_law_335 : St mL_law 335 (.iconst 0) 1 336 := ⟨by decide +kernel, rfl⟩
theorem dL_law_336 : St mL_law 336 (.ireturn) 1 337 := ⟨by decide +kernel, rfl⟩
theorem dL_law_337 : St mL_law 337 (.aload_n 1) 1 338 := ⟨by decide +kernel, rfl⟩
theorem dL_law_338 : St mL_law 338 (.aload_n 0) 1 339 := ⟨by decide +kernel, rfl⟩
theorem dL_law_339 : St mL_law 339 (.iload_n 3) 1 340 := ⟨by decide +kernel, rfl⟩
theorem dL_law_340 : St mL_law 340 (.iconst 1) 1 341 := ⟨by decide +kernel, rfl⟩
theorem dL_law_341 : St mL_law 341 (.iadd) 1 342 := ⟨by decide +kernel, rfl⟩
theorem dL_law_342 : St mL_law 342 (.iaload) 1 343 := ⟨by decide +kernel, rfl⟩
theorem dL_law_343 : St mL_law 343 (.invokevirtual 34) 3 346 := ⟨by decide +kernel, rfl⟩
theorem dL_law_346 : St mL_law 346 (.aload_n 2) 1 347 := ⟨by decide +kernel, rfl⟩
theorem dL_law_347 : St mL_law 347 (.aload_n 0) 1 348 := ⟨by decide +kernel, rfl⟩
theorem dL_law_348 : St mL_law 348 (.iload_n 3) 1 349 := ⟨by decide +kernel, rfl⟩
theorem dL_law_349 : St mL_law 349 (.iconst 1) 1 350 := ⟨by decide +kernel, rfl⟩
theorem dL_law_350 : St mL_law 350 (.iadd) 1 351 := ⟨by decide +kernel, rfl⟩
theorem dL_law_351 : St mL_law 351 (.iaload) 1 352 := ⟨by decide +kernel, rfl⟩
theorem dL_law_352 : St mL_law 352 (.invokevirtual 38) 3 355 := ⟨by decide +kernel, rfl⟩
theorem dL_law_355 : St mL_law 355 (.if_icmp .eq 822) 3 358 := ⟨by decide +kernel, rfl⟩
theorem dL_law_358 : St mL_law 358 (.iconst 0) 1 359 := ⟨by decide +kernel, rfl⟩
theorem dL_law_359 : St mL_law 359 (.ireturn) 1 360 := ⟨by decide +kernel, rfl⟩
theorem dL_law_360 : St mL_law 360 (.aload_n 1) 1 361 := ⟨by decide +kernel, rfl⟩
theorem dL_law_361 : St mL_law 361 (.invokevirtual 39) 3 364 := ⟨by decide +kernel, rfl⟩
theorem dL_law_364 : St mL_law 364 (.aload_n 2) 1 365 := ⟨by decide +kernel, rfl⟩
theorem dL_law_365 : St mL_law 365 (.invokevirtual 43) 3 368 := ⟨by decide +kernel, rfl⟩
theorem dL_law_368 : St mL_law 368 (.if_icmp .eq 809) 3 371 := ⟨by decide +kernel, rfl⟩
theorem dL_law_371 : St mL_law 371 (.iconst 0) 1 372 := ⟨by decide +kernel, rfl⟩
theorem dL_law_372 : St mL_law 372 (.ireturn) 1 373 := ⟨by decide +kernel, rfl⟩
theorem dL_law_373 : St mL_law 373 (.aload_n 1) 1 374 := ⟨by decide +kernel, rfl⟩
theorem dL_law_374 : St mL_law 374 (.aload_n 0) 1 375 := ⟨by decide +kernel, rfl⟩
theorem dL_law_375 : St mL_law 375 (.iload_n 3) 1 376 := ⟨by decide +kernel, rfl⟩
theorem dL_law_376 : St mL_law 376 (.iconst 1) 1 377 := ⟨by decide +kernel, rfl⟩
theorem dL_law_377 : St mL_law 377 (.iadd) 1 378 := ⟨by decide +kernel, rfl⟩
theorem dL_law_378 : St mL_law 378 (.iaload) 1 379 := ⟨by decide +kernel, rfl⟩
theorem dL_law_379 : St mL_law 379 (.invokevirtual 44) 3 382 := ⟨by decide +kernel, rfl⟩
theorem dL_law_382 : St mL_law 382 (.aload_n 2) 1 383 := ⟨by decide +kernel, rfl⟩
theorem dL_law_383 : St mL_law 383 (.aload_n 0) 1 384 := ⟨by decide +kernel, rfl⟩
theorem dL_law_384 : St mL_law 384 (.iload_n 3) 1 385 := ⟨by decide +kernel, rfl⟩
theorem dL_law_385 : St mL_law 385 (.iconst 1) 1 386 := ⟨by decide +kernel, rfl⟩
theorem dL_law_386 : St mL_law 386 (.iadd) 1 387 := ⟨by decide +kernel, rfl⟩
theorem dL_law_387 : St mL_law 387 (.iaload) 1 388 := ⟨by decide +kernel, rfl⟩
theorem dL_law_388 : St mL_law 388 (.invokevirtual 47) 3 391 := ⟨by decide +kernel, rfl⟩
theorem dL_law_391 : St mL_law 391 (.if_icmp .eq 786) 3 394 := ⟨by decide +kernel, rfl⟩
theorem dL_law_394 : St mL_law 394 (.iconst 0) 1 395 := ⟨by decide +kernel, rfl⟩
theorem dL_law_395 : St mL_law 395 (.ireturn) 1 396 := ⟨by decide +kernel, rfl⟩
theorem dL_law_396 : St mL_law 396 (.aload_n 1) 1 397 := ⟨by decide +kernel, rfl⟩
theorem dL_law_397 : St mL_law 397 (.aload_n 0) 1 398 := ⟨by decide +kernel, rfl⟩
theorem dL_law_398 : St mL_law 398 (.iload_n 3) 1 399 := ⟨by decide +kernel, rfl⟩
theorem dL_law_399 : St mL_law 399 (.iconst 1) 1 400 := ⟨by decide +kernel, rfl⟩
theorem dL_law_400 : St mL_law 400 (.iadd) 1 401 := ⟨by decide +kernel, rfl⟩
theorem dL_law_401 : St mL_law 401 (.iaload) 1 402 := ⟨by decide +kernel, rfl⟩
theorem dL_law_402 : St mL_law 402 (.invokevirtual 48) 3 405 := ⟨by decide +kernel, rfl⟩
theorem dL_law_405 : St mL_law 405 (.aload_n 2) 1 406 := ⟨by decide +kernel, rfl⟩
theorem dL_law_406 : St mL_law 406 (.aload_n 0) 1 407 := ⟨by decide +kernel, rfl⟩
theorem dL_law_407 : St mL_law 407 (.iload_n 3) 1 408 := ⟨by decide +kernel, rfl⟩
theorem dL_law_408 : St mL_law 408 (.iconst 1) 1 409 := ⟨by decide +kernel, rfl⟩
theorem dL_law_409 : St mL_law 409 (.iadd) 1 410 := ⟨by decide +kernel, rfl⟩
theorem dL_law_410 : St mL_law 410 (.iaload) 1 411 := ⟨by decide +kernel, rfl⟩
theorem dL_law_411 : St mL_law 411 (.invokevirtual 51) 3 414 := ⟨by decide +kernel, rfl⟩
theorem dL_law_414 : St mL_law 414 (.if_icmp .eq 763) 3 417 := ⟨by decide +kernel, rfl⟩
theorem dL_law_417 : St mL_law 417 (.iconst 0) 1 418 := ⟨by decide +kernel, rfl⟩
theorem dL_law_418 : St mL_law 418 (.ireturn) 1 419 := ⟨by decide +kernel, rfl⟩
theorem dL_law_419 : St mL_law 419 (.aload_n 1) 1 420 := ⟨by decide +kernel, rfl⟩
theorem dL_law_420 : St mL_law 420 (.aload_n 0) 1 421 := ⟨by decide +kernel, rfl⟩
theorem dL_law_421 : St mL_law 421 (.iload_n 3) 1 422 := ⟨by decide +kernel, rfl⟩
theorem dL_law_422 : St mL_law 422 (.iconst 1) 1 423 := ⟨by decide +kernel, rfl⟩
theorem dL_law_423 : St mL_law 423 (.iadd) 1 424 := ⟨by decide +kernel, rfl⟩
theorem dL_law_424 : St mL_law 424 (.iaload) 1 425 := ⟨by decide +kernel, rfl⟩
theorem dL_law_425 : St mL_law 425 (.invokevirtual 52) 3 428 := ⟨by decide +kernel, rfl⟩
theorem dL_law_428 : St mL_law 428 (.aload_n 2) 1 429 := ⟨by decide +kernel, rfl⟩
theorem dL_law_429 : St mL_law 429 (.aload_n 0) 1 430 := ⟨by decide +kernel, rfl⟩
theorem dL_law_430 : St mL_law 430 (.iload_n 3) 1 431 := ⟨by decide +kernel, rfl⟩
theorem dL_law_431 : St mL_law 431 (.iconst 1) 1 432 := ⟨by decide +kernel, rfl⟩
theorem dL_law_432 : St mL_law 432 (.iadd) 1 433 := ⟨by decide +kernel, rfl⟩
theorem dL_law_433 : St mL_law 433 (.iaload) 1 434 := ⟨by decide +kernel, rfl⟩
theorem dL_law_434 : St mL_law 434 (.invokevirtual 55) 3 437 := ⟨by decide +kernel, rfl⟩
theorem dL_law_437 : St mL_law 437 (.if_icmp .eq 740) 3 440 := ⟨by decide +kernel, rfl⟩
theorem dL_law_440 : St mL_law 440 (.iconst 0) 1 441 := ⟨by decide +kernel, rfl⟩
theorem dL_law_441 : St mL_law 441 (.ireturn) 1 442 := ⟨by decide +kernel, rfl⟩
theorem dL_law_442 : St mL_law 442 (.aload_n 1) 1 443 := ⟨by decide +kernel, rfl⟩
theorem dL_law_443 : St mL_law 443 (.aload_n 0) 1 444 := ⟨by decide +kernel, rfl⟩
theorem dL_law_444 : St mL_law 444 (.iload_n 3) 1 445 := ⟨by decide +kernel, rfl⟩
theorem dL_law_445 : St mL_law 445 (.iconst 1) 1 446 := ⟨by decide +kernel, rfl⟩
theorem dL_law_446 : St mL_law 446 (.iadd) 1 447 := ⟨by decide +kernel, rfl⟩
theorem dL_law_447 : St mL_law 447 (.iaload) 1 448 := ⟨by decide +kernel, rfl⟩
theorem dL_law_448 : St mL_law 448 (.aload_n 0) 1 449 := ⟨by decide +kernel, rfl⟩
theorem dL_law_449 : St mL_law 449 (.iload_n 3) 1 450 := ⟨by decide +kernel, rfl⟩
theorem dL_law_450 : St mL_law 450 (.iconst 2) 1 451 := ⟨by decide +kernel, rfl⟩
theorem dL_law_451 : St mL_law 451 (.iadd) 1 452 := ⟨by decide +kernel, rfl⟩
theorem dL_law_452 : St mL_law 452 (.iaload) 1 453 := ⟨by decide +kernel, rfl⟩
theorem dL_law_453 : St mL_law 453 (.aload_n 0) 1 454 := ⟨by decide +kernel, rfl⟩
theorem dL_law_454 : St mL_law 454 (.iload_n 3) 1 455 := ⟨by decide +kernel, rfl⟩
theorem dL_law_455 : St mL_law 455 (.iconst 3) 1 456 := ⟨by decide +kernel, rfl⟩
theorem dL_law_456 : St mL_law 456 (.iadd) 1 457 := ⟨by decide +kernel, rfl⟩
theorem dL_law_457 : St mL_law 457 (.iaload) 1 458 := ⟨by decide +kernel, rfl⟩
theorem dL_law_458 : St mL_law 458 (.invokevirtual 56) 3 461 := ⟨by decide +kernel, rfl⟩
theorem dL_law_461 : St mL_law 461 (.aload_n 2) 1 462 := ⟨by decide +kernel, rfl⟩
theorem dL_law_462 : St mL_law 462 (.aload_n 0) 1 463 := ⟨by decide +kernel, rfl⟩
theorem dL_law_463 : St mL_law 463 (.iload_n 3) 1 464 := ⟨by decide +kernel, rfl⟩
theorem dL_law_464 : St mL_law 464 (.iconst 1) 1 465 := ⟨by decide +kernel, rfl⟩
theorem dL_law_465 : St mL_law 465 (.iadd) 1 466 := ⟨by decide +kernel, rfl⟩
theorem dL_law_466 : St mL_law 466 (.iaload) 1 467 := ⟨by decide +kernel, rfl⟩
theorem dL_law_467 : St mL_law 467 (.aload_n 0) 1 468 := ⟨by decide +kernel, rfl⟩
theorem dL_law_468 : St mL_law 468 (.iload_n 3) 1 469 := ⟨by decide +kernel, rfl⟩
theorem dL_law_469 : St mL_law 469 (.iconst 2) 1 470 := ⟨by decide +kernel, rfl⟩
theorem dL_law_470 : St mL_law 470 (.iadd) 1 471 := ⟨by decide +kernel, rfl⟩
theorem dL_law_471 : St mL_law 471 (.iaload) 1 472 := ⟨by decide +kernel, rfl⟩
theorem dL_law_472 : St mL_law 472 (.aload_n 0) 1 473 := ⟨by decide +kernel, rfl⟩
theorem dL_law_473 : St mL_law 473 (.iload_n 3) 1 474 := ⟨by decide +kernel, rfl⟩
theorem dL_law_474 : St mL_law 474 (.iconst 3) 1 475 := ⟨by decide +kernel, rfl⟩
theorem dL_law_475 : St mL_law 475 (.iadd) 1 476 := ⟨by decide +kernel, rfl⟩
theorem dL_law_476 : St mL_law 476 (.iaload) 1 477 := ⟨by decide +kernel, rfl⟩
theorem dL_law_477 : St mL_law 477 (.invokevirtual 60) 3 480 := ⟨by decide +kernel, rfl⟩
theorem dL_law_480 : St mL_law 480 (.if_icmp .eq 697) 3 483 := ⟨by decide +kernel, rfl⟩
theorem dL_law_483 : St mL_law 483 (.iconst 0) 1 484 := ⟨by decide +kernel, rfl⟩
theorem dL_law_484 : St mL_law 484 (.ireturn) 1 485 := ⟨by decide +kernel, rfl⟩
theorem dL_law_485 : St mL_law 485 (.aload_n 1) 1 486 := ⟨by decide +kernel, rfl⟩
theorem dL_law_486 : St mL_law 486 (.aload_n 0) 1 487 := ⟨by decide +kernel, rfl⟩
theorem dL_law_487 : St mL_law 487 (.iload_n 3) 1 488 := ⟨by decide +kernel, rfl⟩
theorem dL_law_488 : St mL_law 488 (.iconst 1) 1 489 := ⟨by decide +kernel, rfl⟩
theorem dL_law_489 : St mL_law 489 (.iadd) 1 490 := ⟨by decide +kernel, rfl⟩
theorem dL_law_490 : St mL_law 490 (.iaload) 1 491 := ⟨by decide +kernel, rfl⟩
theorem dL_law_491 : St mL_law 491 (.aload_n 0) 1 492 := ⟨by decide +kernel, rfl⟩
theorem dL_law_492 : St mL_law 492 (.iload_n 3) 1 493 := ⟨by decide +kernel, rfl⟩
theorem dL_law_493 : St mL_law 493 (.iconst 2) 1 494 := ⟨by decide +kernel, rfl⟩
theorem dL_law_494 : St mL_law 494 (.iadd) 1 495 := ⟨by decide +kernel, rfl⟩
theorem dL_law_495 : St mL_law 495 (.iaload) 1 496 := ⟨by decide +kernel, rfl⟩
theorem dL_law_496 : St mL_law 496 (.invokevirtual 61) 3 499 := ⟨by decide +kernel, rfl⟩
theorem dL_law_499 : St mL_law 499 (.aload_n 2) 1 500 := ⟨by decide +kernel, rfl⟩
theorem dL_law_500 : St mL_law 500 (.aload_n 0) 1 501 := ⟨by decide +kernel, rfl⟩
theorem dL_law_501 : St mL_law 501 (.iload_n 3) 1 502 := ⟨by decide +kernel, rfl⟩
theorem dL_law_502 : St mL_law 502 (.iconst 1) 1 503 := ⟨by decide +kernel, rfl⟩
theorem dL_law_503 : St mL_law 503 (.iadd) 1 504 := ⟨by decide +kernel, rfl⟩
theorem dL_law_504 : St mL_law 504 (.iaload) 1 505 := ⟨by decide +kernel, rfl⟩
theorem dL_law_505 : St mL_law 505 (.aload_n 0) 1 506 := ⟨by decide +kernel, rfl⟩
theorem dL_law_506 : St mL_law 506 (.iload_n 3) 1 507 := ⟨by decide +kernel, rfl⟩
theorem dL_law_507 : St mL_law 507 (.iconst 2) 1 508 := ⟨by decide +kernel, rfl⟩
theorem dL_law_508 : St mL_law 508 (.iadd) 1 509 := ⟨by decide +kernel, rfl⟩
theorem dL_law_509 : St mL_law 509 (.iaload) 1 510 := ⟨by decide +kernel, rfl⟩
theorem dL_law_510 : St mL_law 510 (.invokevirtual 64) 3 513 := ⟨by decide +kernel, rfl⟩
theorem dL_law_513 : St mL_law 513 (.if_icmp .eq 664) 3 516 := ⟨by decide +kernel, rfl⟩
theorem dL_law_516 : St mL_law 516 (.iconst 0) 1 517 := ⟨by decide +kernel, rfl⟩
theorem dL_law_517 : St mL_law 517 (.ireturn) 1 518 := ⟨by decide +kernel, rfl⟩
theorem dL_law_518 : St mL_law 518 (.aload_n 1) 1 519 := ⟨by decide +kernel, rfl⟩
theorem dL_law_519 : St mL_law 519 (.aload_n 0) 1 520 := ⟨by decide +kernel, rfl⟩
theorem dL_law_520 : St mL_law 520 (.iload_n 3) 1 521 := ⟨by decide +kernel, rfl⟩
theorem dL_law_521 : St mL_law 521 (.iconst 1) 1 522 := ⟨by decide +kernel, rfl⟩
theorem dL_law_522 : St mL_law 522 (.iadd) 1 523 := ⟨by decide +kernel, rfl⟩
theorem dL_law_523 : St mL_law 523 (.iaload) 1 524 := ⟨by decide +kernel, rfl⟩
theorem dL_law_524 : St mL_law 524 (.invokevirtual 65) 3 527 := ⟨by decide +kernel, rfl⟩
theorem dL_law_527 : St mL_law 527 (.aload_n 2) 1 528 := ⟨by decide +kernel, rfl⟩
theorem dL_law_528 : St mL_law 528 (.aload_n 0) 1 529 := ⟨by decide +kernel, rfl⟩
theorem dL_law_529 : St mL_law 529 (.iload_n 3) 1 530 := ⟨by decide +kernel, rfl⟩
theorem dL_law_530 : St mL_law 530 (.iconst 1) 1 531 := ⟨by decide +kernel, rfl⟩
theorem dL_law_531 : St mL_law 531 (.iadd) 1 532 := ⟨by decide +kernel, rfl⟩
theorem dL_law_532 : St mL_law 532 (.iaload) 1 533 := ⟨by decide +kernel, rfl⟩
theorem dL_law_533 : St mL_law 533 (.invokevirtual 68) 3 536 := ⟨by decide +kernel, rfl⟩
theorem dL_law_536 : St mL_law 536 (.if_icmp .eq 641) 3 539 := ⟨by decide +kernel, rfl⟩
theorem dL_law_539 : St mL_law 539 (.iconst 0) 1 540 := ⟨by decide +kernel, rfl⟩
theorem dL_law_540 : St mL_law 540 (.ireturn) 1 541 := ⟨by decide +kernel, rfl⟩
theorem dL_law_541 : St mL_law 541 (.aload_n 1) 1 542 := ⟨by decide +kernel, rfl⟩
theorem dL_law_542 : St mL_law 542 (.aload_n 0) 1 543 := ⟨by decide +kernel, rfl⟩
theorem dL_law_543 : St mL_law 543 (.iload_n 3) 1 544 := ⟨by decide +kernel, rfl⟩
theorem dL_law_544 : St mL_law 544 (.iconst 1) 1 545 := ⟨by decide +kernel, rfl⟩
theorem dL_law_545 : St mL_law 545 (.iadd) 1 546 := ⟨by decide +kernel, rfl⟩
theorem dL_law_546 : St mL_law 546 (.iaload) 1 547 := ⟨by decide +kernel, rfl⟩
theorem dL_law_547 : St mL_law 547 (.invokevirtual 69) 3 550 := ⟨by decide +kernel, rfl⟩
theorem dL_law_550 : St mL_law 550 (.aload_n 2) 1 551 := ⟨by decide +kernel, rfl⟩
theorem dL_law_551 : St mL_law 551 (.aload_n 0) 1 552 := ⟨by decide +kernel, rfl⟩
theorem dL_law_552 : St mL_law 552 (.iload_n 3) 1 553 := ⟨by decide +kernel, rfl⟩
theorem dL_law_553 : St mL_law 553 (.iconst 1) 1 554 := ⟨by decide +kernel, rfl⟩
theorem dL_law_554 : St mL_law 554 (.iadd) 1 555 := ⟨by decide +kernel, rfl⟩
theorem dL_law_555 : St mL_law 555 (.iaload) 1 556 := ⟨by decide +kernel, rfl⟩
theorem dL_law_556 : St mL_law 556 (.invokevirtual 72) 3 559 := ⟨by decide +kernel, rfl⟩
theorem dL_law_559 : St mL_law 559 (.if_icmp .eq 618) 3 562 := ⟨by decide +kernel, rfl⟩
theorem dL_law_562 : St mL_law 562 (.iconst 0) 1 563 := ⟨by decide +kernel, rfl⟩
theorem dL_law_563 : St mL_law 563 (.ireturn) 1 564 := ⟨by decide +kernel, rfl⟩
theorem dL_law_564 : St mL_law 564 (.aload_n 1) 1 565 := ⟨by decide +kernel, rfl⟩
theorem dL_law_565 : St mL_law 565 (.aload_n 0) 1 566 := ⟨by decide +kernel, rfl⟩
theorem dL_law_566 : St mL_law 566 (.iload_n 3) 1 567 := ⟨by decide +kernel, rfl⟩
theorem dL_law_567 : St mL_law 567 (.iconst 1) 1 568 := ⟨by decide +kernel, rfl⟩
theorem dL_law_568 : St mL_law 568 (.iadd) 1 569 := ⟨by decide +kernel, rfl⟩
theorem dL_law_569 : St mL_law 569 (.iaload) 1 570 := ⟨by decide +kernel, rfl⟩
theorem dL_law_570 : St mL_law 570 (.invokevirtual 73) 3 573 := ⟨by decide +kernel, rfl⟩
theorem dL_law_573 : St mL_law 573 (.aload_n 2) 1 574 := ⟨by decide +kernel, rfl⟩
theorem dL_law_574 : St mL_law 574 (.aload_n 0) 1 575 := ⟨by decide +kernel, rfl⟩
theorem dL_law_575 : St mL_law 575 (.iload_n 3) 1 576 := ⟨by decide +kernel, rfl⟩
theorem dL_law_576 : St mL_law 576 (.iconst 1) 1 577 := ⟨by decide +kernel, rfl⟩
theorem dL_law_577 : St mL_law 577 (.iadd) 1 578 := ⟨by decide +kernel, rfl⟩
theorem dL_law_578 : St mL_law 578 (.iaload) 1 579 := ⟨by decide +kernel, rfl⟩
theorem dL_law_579 : St mL_law 579 (.invokevirtual 76) 3 582 := ⟨by decide +kernel, rfl⟩
theorem dL_law_582 : St mL_law 582 (.if_icmp .eq 595) 3 585 := ⟨by decide +kernel, rfl⟩
theorem dL_law_585 : St mL_law 585 (.iconst 0) 1 586 := ⟨by decide +kernel, rfl⟩
theorem dL_law_586 : St mL_law 586 (.ireturn) 1 587 := ⟨by decide +kernel, rfl⟩
theorem dL_law_587 : St mL_law 587 (.aload_n 1) 1 588 := ⟨by decide +kernel, rfl⟩
theorem dL_law_588 : St mL_law 588 (.invokevirtual 77) 3 591 := ⟨by decide +kernel, rfl⟩
theorem dL_law_591 : St mL_law 591 (.aload_n 2) 1 592 := ⟨by decide +kernel, rfl⟩
theorem dL_law_592 : St mL_law 592 (.invokevirtual 80) 3 595 := ⟨by decide +kernel, rfl⟩
theorem dL_law_595 : St mL_law 595 (.if_icmp .eq 582) 3 598 := ⟨by decide +kernel, rfl⟩
theorem dL_law_598 : St mL_law 598 (.iconst 0) 1 599 := ⟨by decide +kernel, rfl⟩
theorem dL_law_599 : St mL_law 599 (.ireturn) 1 600 := ⟨by decide +kernel, rfl⟩
theorem dL_law_600 : St mL_law 600 (.aload_n 1) 1 601 := ⟨by decide +kernel, rfl⟩
theorem dL_law_601 : St mL_law 601 (.aload_n 0) 1 602 := ⟨by decide +kernel, rfl⟩
theorem dL_law_602 : St mL_law 602 (.iload_n 3) 1 603 := ⟨by decide +kernel, rfl⟩
theorem dL_law_603 : St mL_law 603 (.iconst 1) 1 604 := ⟨by decide +kernel, rfl⟩
theorem dL_law_604 : St mL_law 604 (.iadd) 1 605 := ⟨by decide +kernel, rfl⟩
theorem dL_law_605 : St mL_law 605 (.iaload) 1 606 := ⟨by decide +kernel, rfl⟩
theorem dL_law_606 : St mL_law 606 (.invokevirtual 81) 3 609 := ⟨by decide +kernel, rfl⟩
theorem dL_law_609 : St mL_law 609 (.aload_n 2) 1 610 := ⟨by decide +kernel, rfl⟩
theorem dL_law_610 : St mL_law 610 (.aload_n 0) 1 611 := ⟨by decide +kernel, rfl⟩
theorem dL_law_611 : St mL_law 611 (.iload_n 3) 1 612 := ⟨by decide +kernel, rfl⟩
theorem dL_law_612 : St mL_law 612 (.iconst 1) 1 613 := ⟨by decide +kernel, rfl⟩
theorem dL_law_613 : St mL_law 613 (.iadd) 1 614 := ⟨by decide +kernel, rfl⟩
theorem dL_law_614 : St mL_law 614 (.iaload) 1 615 := ⟨by decide +kernel, rfl⟩
theorem dL_law_615 : St mL_law 615 (.invokevirtual 84) 3 618 := ⟨by decide +kernel, rfl⟩
theorem dL_law_618 : St mL_law 618 (.if_icmp .eq 559) 3 621 := ⟨by decide +kernel, rfl⟩
theorem dL_law_621 : St mL_law 621 (.iconst 0) 1 622 := ⟨by decide +kernel, rfl⟩
theorem dL_law_622 : St mL_law 622 (.ireturn) 1 623 := ⟨by decide +kernel, rfl⟩
theorem dL_law_623 : St mL_law 623 (.aload_n 1) 1 624 := ⟨by decide +kernel, rfl⟩
theorem dL_law_624 : St mL_law 624 (.aload_n 0) 1 625 := ⟨by decide +kernel, rfl⟩
theorem dL_law_625 : St mL_law 625 (.iload_n 3) 1 626 := ⟨by decide +kernel, rfl⟩
theorem dL_law_626 : St mL_law 626 (.iconst 1) 1 627 := ⟨by decide +kernel, rfl⟩
theorem dL_law_627 : St mL_law 627 (.iadd) 1 628 := ⟨by decide +kernel, rfl⟩
theorem dL_law_628 : St mL_law 628 (.iaload) 1 629 := ⟨by decide +kernel, rfl⟩
theorem dL_law_629 : St mL_law 629 (.aload_n 0) 1 630 := ⟨by decide +kernel, rfl⟩
theorem dL_law_630 : St mL_law 630 (.iload_n 3) 1 631 := ⟨by decide +kernel, rfl⟩
theorem dL_law_631 : St mL_law 631 (.iconst 2) 1 632 := ⟨by decide +kernel, rfl⟩
theorem dL_law_632 : St mL_law 632 (.iadd) 1 633 := ⟨by decide +kernel, rfl⟩
theorem dL_law_633 : St mL_law 633 (.iaload) 1 634 := ⟨by decide +kernel, rfl⟩
theorem dL_law_634 : St mL_law 634 (.aload_n 0) 1 635 := ⟨by decide +kernel, rfl⟩
theorem dL_law_635 : St mL_law 635 (.iload_n 3) 1 636 := ⟨by decide +kernel, rfl⟩
theorem dL_law_636 : St mL_law 636 (.iconst 3) 1 637 := ⟨by decide +kernel, rfl⟩
theorem dL_law_637 : St mL_law 637 (.iadd) 1 638 := ⟨by decide +kernel, rfl⟩
theorem dL_law_638 : St mL_law 638 (.iaload) 1 639 := ⟨by decide +kernel, rfl⟩
theorem dL_law_639 : St mL_law 639 (.invokevirtual 85) 3 642 := ⟨by decide +kernel, rfl⟩
theorem dL_law_642 : St mL_law 642 (.aload_n 2) 1 643 := ⟨by decide +kernel, rfl⟩
theorem dL_law_643 : St mL_law 643 (.aload_n 0) 1 644 := ⟨by decide +kernel, rfl⟩
theorem dL_law_644 : St mL_law 644 (.iload_n 3) 1 645 := ⟨by decide +kernel, rfl⟩
theorem dL_law_645 : St mL_law 645 (.iconst 1) 1 646 := ⟨by decide +kernel, rfl⟩
theorem dL_law_646 : St mL_law 646 (.iadd) 1 647 := ⟨by decide +kernel, rfl⟩
theorem dL_law_647 : St mL_law 647 (.iaload) 1 648 := ⟨by decide +kernel, rfl⟩
theorem dL_law_648 : St mL_law 648 (.aload_n 0) 1 649 := ⟨by decide +kernel, rfl⟩
theorem dL_law_649 : St mL_law 649 (.iload_n 3) 1 650 := ⟨by decide +kernel, rfl⟩
theorem dL_law_650 : St mL_law 650 (.iconst 2) 1 651 := ⟨by decide +kernel, rfl⟩
theorem dL_law_651 : St mL_law 651 (.iadd) 1 652 := ⟨by decide +kernel, rfl⟩
theorem dL_law_652 : St mL_law 652 (.iaload) 1 653 := ⟨by decide +kernel, rfl⟩
theorem dL_law_653 : St mL_law 653 (.aload_n 0) 1 654 := ⟨by decide +kernel, rfl⟩
theorem dL_law_654 : St mL_law 654 (.iload_n 3) 1 655 := ⟨by decide +kernel, rfl⟩
theorem dL_law_655 : St mL_law 655 (.iconst 3) 1 656 := ⟨by decide +kernel, rfl⟩
theorem dL_law_656 : St mL_law 656 (.iadd) 1 657 := ⟨by decide +kernel, rfl⟩
theorem dL_law_657 : St mL_law 657 (.iaload) 1 658 := ⟨by decide +kernel, rfl⟩
theorem dL_law_658 : St mL_law 658 (.invokevirtual 88) 3 661 := ⟨by decide +kernel, rfl⟩
theorem dL_law_661 : St mL_law 661 (.if_icmp .eq 516) 3 664 := ⟨by decide +kernel, rfl⟩
theorem dL_law_664 : St mL_law 664 (.iconst 0) 1 665 := ⟨by decide +kernel, rfl⟩
theorem dL_law_665 : St mL_law 665 (.ireturn) 1 666 := ⟨by decide +kernel, rfl⟩
theorem dL_law_666 : St mL_law 666 (.aload_n 1) 1 667 := ⟨by decide +kernel, rfl⟩
theorem dL_law_667 : St mL_law 667 (.invokevirtual 89) 3 670 := ⟨by decide +kernel, rfl⟩
theorem dL_law_670 : St mL_law 670 (.aload_n 2) 1 671 := ⟨by decide +kernel, rfl⟩
theorem dL_law_671 : St mL_law 671 (.invokevirtual 92) 3 674 := ⟨by decide +kernel, rfl⟩
theorem dL_law_674 : St mL_law 674 (.if_icmp .eq 503) 3 677 := ⟨by decide +kernel, rfl⟩
theorem dL_law_677 : St mL_law 677 (.iconst 0) 1 678 := ⟨by decide +kernel, rfl⟩
theorem dL_law_678 : St mL_law 678 (.ireturn) 1 679 := ⟨by decide +kernel, rfl⟩
theorem dL_law_679 : St mL_law 679 (.aload_n 1) 1 680 := ⟨by decide +kernel, rfl⟩
theorem dL_law_680 : St mL_law 680 (.aload_n 0) 1 681 := ⟨by decide +kernel, rfl⟩
theorem dL_law_681 : St mL_law 681 (.iload_n 3) 1 682 := ⟨by decide +kernel, rfl⟩
theorem dL_law_682 : St mL_law 682 (.iconst 1) 1 683 := ⟨by decide +kernel, rfl⟩
theorem dL_law_683 : St mL_law 683 (.iadd) 1 684 := ⟨by decide +kernel, rfl⟩
theorem dL_law_684 : St mL_law 684 (.iaload) 1 685 := ⟨by decide +kernel, rfl⟩
theorem dL_law_685 : St mL_law 685 (.aload_n 0) 1 686 := ⟨by decide +kernel, rfl⟩
theorem dL_law_686 : St mL_law 686 (.iload_n 3) 1 687 := ⟨by decide +kernel, rfl⟩
theorem dL_law_687 : St mL_law 687 (.iconst 2) 1 688 := ⟨by decide +kernel, rfl⟩
theorem dL_law_688 : St mL_law 688 (.iadd) 1 689 := ⟨by decide +kernel, rfl⟩
theorem dL_law_689 : St mL_law 689 (.iaload) 1 690 := ⟨by decide +kernel, rfl⟩
theorem dL_law_690 : St mL_law 690 (.invokevirtual 93) 3 693 := ⟨by decide +kernel, rfl⟩
theorem dL_law_693 : St mL_law 693 (.aload_n 2) 1 694 := ⟨by decide +kernel, rfl⟩
theorem dL_law_694 : St mL_law 694 (.aload_n 0) 1 695 := ⟨by decide +kernel, rfl⟩
theorem dL_law_695 : St mL_law 695 (.iload_n 3) 1 696 := ⟨by decide +kernel, rfl⟩
theorem dL_law_696 : St mL_law 696 (.iconst 1) 1 697 := ⟨by decide +kernel, rfl⟩
theorem dL_law_697 : St mL_law 697 (.iadd) 1 698 := ⟨by decide +kernel, rfl⟩
theorem dL_law_698 : St mL_law 698 (.iaload) 1 699 := ⟨by decide +kernel, rfl⟩
theorem dL_law_699 : St mL_law 699 (.aload_n 0) 1 700 := ⟨by decide +kernel, rfl⟩
theorem dL_law_700 : St mL_law 700 (.iload_n 3) 1 701 := ⟨by decide +kernel, rfl⟩
theorem dL_law_701 : St mL_law 701 (.iconst 2) 1 702 := ⟨by decide +kernel, rfl⟩
theorem dL_law_702 : St mL_law 702 (.iadd) 1 703 := ⟨by decide +kernel, rfl⟩
theorem dL_law_703 : St mL_law 703 (.iaload) 1 704 := ⟨by decide +kernel, rfl⟩
theorem dL_law_704 : St mL_law 704 (.invokevirtual 96) 3 707 := ⟨by decide +kernel, rfl⟩
theorem dL_law_707 : St mL_law 707 (.if_icmp .eq 470) 3 710 := ⟨by decide +kernel, rfl⟩
theorem dL_law_710 : St mL_law 710 (.iconst 0) 1 711 := ⟨by decide +kernel, rfl⟩
theorem dL_law_711 : St mL_law 711 (.ireturn) 1 712 := ⟨by decide +kernel, rfl⟩
theorem dL_law_712 : St mL_law 712 (.aload_n 1) 1 713 := ⟨by decide +kernel, rfl⟩
theorem dL_law_713 : St mL_law 713 (.aload_n 0) 1 714 := ⟨by decide +kernel, rfl⟩
theorem dL_law_714 : St mL_law 714 (.iload_n 3) 1 715 := ⟨by decide +kernel, rfl⟩
theorem dL_law_715 : St mL_law 715 (.iconst 1) 1 716 := ⟨by decide +kernel, rfl⟩
theorem dL_law_716 : St mL_law 716 (.iadd) 1 717 := ⟨by decide +kernel, rfl⟩
theorem dL_law_717 : St mL_law 717 (.iaload) 1 718 := ⟨by decide +kernel, rfl⟩
theorem dL_law_718 : St mL_law 718 (.aload_n 0) 1 719 := ⟨by decide +kernel, rfl⟩
theorem dL_law_719 : St mL_law 719 (.iload_n 3) 1 720 := ⟨by decide +kernel, rfl⟩
theorem dL_law_720 : St mL_law 720 (.iconst 2) 1 721 := ⟨by decide +kernel, rfl⟩
theorem dL_law_721 : St mL_law 721 (.iadd) 1 722 := ⟨by decide +kernel, rfl⟩
theorem dL_law_722 : St mL_law 722 (.iaload) 1 723 := ⟨by decide +kernel, rfl⟩
theorem dL_law_723 : St mL_law 723 (.invokevirtual 97) 3 726 := ⟨by decide +kernel, rfl⟩
theorem dL_law_726 : St mL_law 726 (.aload_n 2) 1 727 := ⟨by decide +kernel, rfl⟩
theorem dL_law_727 : St mL_law 727 (.aload_n 0) 1 728 := ⟨by decide +kernel, rfl⟩
theorem dL_law_728 : St mL_law 728 (.iload_n 3) 1 729 := ⟨by decide +kernel, rfl⟩
theorem dL_law_729 : St mL_law 729 (.iconst 1) 1 730 := ⟨by decide +kernel, rfl⟩
theorem dL_law_730 : St mL_law 730 (.iadd) 1 731 := ⟨by decide +kernel, rfl⟩
theorem dL_law_731 : St mL_law 731 (.iaload) 1 732 := ⟨by decide +kernel, rfl⟩
theorem dL_law_732 : St mL_law 732 (.aload_n 0) 1 733 := ⟨by decide +kernel, rfl⟩
theorem dL_law_733 : St mL_law 733 (.iload_n 3) 1 734 := ⟨by decide +kernel, rfl⟩
theorem dL_law_734 : St mL_law 734 (.iconst 2) 1 735 := ⟨by decide +kernel, rfl⟩
theorem dL_law_735 : St mL_law 735 (.iadd) 1 736 := ⟨by decide +kernel, rfl⟩
theorem dL_law_736 : St mL_law 736 (.iaload) 1 737 := ⟨by decide +kernel, rfl⟩
theorem dL_law_737 : St mL_law 737 (.invokevirtual 100) 3 740 := ⟨by decide +kernel, rfl⟩
theorem dL_law_740 : St mL_law 740 (.if_icmp .eq 437) 3 743 := ⟨by decide +kernel, rfl⟩
theorem dL_law_743 : St mL_law 743 (.iconst 0) 1 744 := ⟨by decide +kernel, rfl⟩
theorem dL_law_744 : St mL_law 744 (.ireturn) 1 745 := ⟨by decide +kernel, rfl⟩
theorem dL_law_745 : St mL_law 745 (.aload_n 1) 1 746 := ⟨by decide +kernel, rfl⟩
theorem dL_law_746 : St mL_law 746 (.aload_n 0) 1 747 := ⟨by decide +kernel, rfl⟩
theorem dL_law_747 : St mL_law 747 (.iload_n 3) 1 748 := ⟨by decide +kernel, rfl⟩
theorem dL_law_748 : St mL_law 748 (.iconst 1) 1 749 := ⟨by decide +kernel, rfl⟩
theorem dL_law_749 : St mL_law 749 (.iadd) 1 750 := ⟨by decide +kernel, rfl⟩
theorem dL_law_750 : St mL_law 750 (.iaload) 1 751 := ⟨by decide +kernel, rfl⟩
theorem dL_law_751 : St mL_law 751 (.aload_n 0) 1 752 := ⟨by decide +kernel, rfl⟩
theorem dL_law_752 : St mL_law 752 (.iload_n 3) 1 753 := ⟨by decide +kernel, rfl⟩
theorem dL_law_753 : St mL_law 753 (.iconst 2) 1 754 := ⟨by decide +kernel, rfl⟩
theorem dL_law_754 : St mL_law 754 (.iadd) 1 755 := ⟨by decide +kernel, rfl⟩
theorem dL_law_755 : St mL_law 755 (.iaload) 1 756 := ⟨by decide +kernel, rfl⟩
theorem dL_law_756 : St mL_law 756 (.invokevirtual 101) 3 759 := ⟨by decide +kernel, rfl⟩
theorem dL_law_759 : St mL_law 759 (.aload_n 2) 1 760 := ⟨by decide +kernel, rfl⟩
theorem dL_law_760 : St mL_law 760 (.aload_n 0) 1 761 := ⟨by decide +kernel, rfl⟩
theorem dL_law_761 : St mL_law 761 (.iload_n 3) 1 762 := ⟨by decide +kernel, rfl⟩
theorem dL_law_762 : St mL_law 762 (.iconst 1) 1 763 := ⟨by decide +kernel, rfl⟩
theorem dL_law_763 : St mL_law 763 (.iadd) 1 764 := ⟨by decide +kernel, rfl⟩
theorem dL_law_764 : St mL_law 764 (.iaload) 1 765 := ⟨by decide +kernel, rfl⟩
theorem dL_law_765 : St mL_law 765 (.aload_n 0) 1 766 := ⟨by decide +kernel, rfl⟩
theorem dL_law_766 : St mL_law 766 (.iload_n 3) 1 767 := ⟨by decide +kernel, rfl⟩
theorem dL_law_767 : St mL_law 767 (.iconst 2) 1 768 := ⟨by decide +kernel, rfl⟩
theorem dL_law_768 : St mL_law 768 (.iadd) 1 769 := ⟨by decide +kernel, rfl⟩
theorem dL_law_769 : St mL_law 769 (.iaload) 1 770 := ⟨by decide +kernel, rfl⟩
theorem dL_law_770 : St mL_law 770 (.invokevirtual 104) 3 773 := ⟨by decide +kernel, rfl⟩
theorem dL_law_773 : St mL_law 773 (.if_icmp .eq 404) 3 776 := ⟨by decide +kernel, rfl⟩
theorem dL_law_776 : St mL_law 776 (.iconst 0) 1 777 := ⟨by decide +kernel, rfl⟩
theorem dL_law_777 : St mL_law 777 (.ireturn) 1 778 := ⟨by decide +kernel, rfl⟩
theorem dL_law_778 : St mL_law 778 (.aload_n 1) 1 779 := ⟨by decide +kernel, rfl⟩
theorem dL_law_779 : St mL_law 779 (.aload_n 0) 1 780 := ⟨by decide +kernel, rfl⟩
theorem dL_law_780 : St mL_law 780 (.iload_n 3) 1 781 := ⟨by decide +kernel, rfl⟩
theorem dL_law_781 : St mL_law 781 (.iconst 1) 1 782 := ⟨by decide +kernel, rfl⟩
theorem dL_law_782 : St mL_law 782 (.iadd) 1 783 := ⟨by decide +kernel, rfl⟩
theorem dL_law_783 : St mL_law 783 (.iaload) 1 784 := ⟨by decide +kernel, rfl⟩
theorem dL_law_784 : St mL_law 784 (.invokevirtual 105) 3 787 := ⟨by decide +kernel, rfl⟩
theorem dL_law_787 : St mL_law 787 (.aload_n 2) 1 788 := ⟨by decide +kernel, rfl⟩
theorem dL_law_788 : St mL_law 788 (.aload_n 0) 1 789 := ⟨by decide +kernel, rfl⟩
theorem dL_law_789 : St mL_law 789 (.iload_n 3) 1 790 := ⟨by decide +kernel, rfl⟩
theorem dL_law_790 : St mL_law 790 (.iconst 1) 1 791 := ⟨by decide +kernel, rfl⟩
theorem dL_law_791 : St mL_law 791 (.iadd) 1 792 := ⟨by decide +kernel, rfl⟩
theorem dL_law_792 : St mL_law 792 (.iaload) 1 793 := ⟨by decide +kernel, rfl⟩
theorem dL_law_793 : St mL_law 793 (.invokevirtual 108) 3 796 := ⟨by decide +kernel, rfl⟩
theorem dL_law_796 : St mL_law 796 (.if_icmp .eq 381) 3 799 := ⟨by decide +kernel, rfl⟩
theorem dL_law_799 : St mL_law 799 (.iconst 0) 1 800 := ⟨by decide +kernel, rfl⟩
theorem dL_law_800 : St mL_law 800 (.ireturn) 1 801 := ⟨by decide +kernel, rfl⟩
theorem dL_law_801 : St mL_law 801 (.aload_n 1) 1 802 := ⟨by decide +kernel, rfl⟩
theorem dL_law_802 : St mL_law 802 (.invokevirtual 109) 3 805 := ⟨by decide +kernel, rfl⟩
theorem dL_law_805 : St mL_law 805 (.aload_n 2) 1 806 := ⟨by decide +kernel, rfl⟩
theorem dL_law_806 : St mL_law 806 (.invokevirtual 112) 3 809 := ⟨by decide +kernel, rfl⟩
theorem dL_law_809 : St mL_law 809 (.if_icmp .eq 368) 3 812 := ⟨by decide +kernel, rfl⟩
theorem dL_law_812 : St mL_law 812 (.iconst 0) 1 813 := ⟨by decide +kernel, rfl⟩
theorem dL_law_813 : St mL_law 813 (.ireturn) 1 814 := ⟨by decide +kernel, rfl⟩
theorem dL_law_814 : St mL_law 814 (.aload_n 1) 1 815 := ⟨by decide +kernel, rfl⟩
theorem dL_law_815 : St mL_law 815 (.invokevirtual 113) 3 818 := ⟨by decide +kernel, rfl⟩
theorem dL_law_818 : St mL_law 818 (.aload_n 2) 1 819 := ⟨by decide +kernel, rfl⟩
theorem dL_law_819 : St mL_law 819 (.invokevirtual 116) 3 822 := ⟨by decide +kernel, rfl⟩
theorem dL_law_822 : St mL_law 822 (.if_icmp .eq 355) 3 825 := ⟨by decide +kernel, rfl⟩
theorem dL_law_825 : St mL_law 825 (.iconst 0) 1 826 := ⟨by decide +kernel, rfl⟩
theorem dL_law_826 : St mL_law 826 (.ireturn) 1 827 := ⟨by decide +kernel, rfl⟩
theorem dL_law_827 : St mL_law 827 (.aload_n 1) 1 828 := ⟨by decide +kernel, rfl⟩
theorem dL_law_828 : St mL_law 828 (.aload_n 0) 1 829 := ⟨by decide +kernel, rfl⟩
theorem dL_law_829 : St mL_law 829 (.iload_n 3) 1 830 := ⟨by decide +kernel, rfl⟩
theorem dL_law_830 : St mL_law 830 (.iconst 1) 1 831 := ⟨by decide +kernel, rfl⟩
theorem dL_law_831 : St mL_law 831 (.iadd) 1 832 := ⟨by decide +kernel, rfl⟩
theorem dL_law_832 : St mL_law 832 (.iaload) 1 833 := ⟨by decide +kernel, rfl⟩
theorem dL_law_833 : St mL_law 833 (.aload_n 0) 1 834 := ⟨by decide +kernel, rfl⟩
theorem dL_law_834 : St mL_law 834 (.iload_n 3) 1 835 := ⟨by decide +kernel, rfl⟩
theorem dL_law_835 : St mL_law 835 (.iconst 2) 1 836 := ⟨by decide +kernel, rfl⟩
theorem dL_law_836 : St mL_law 836 (.iadd) 1 837 := ⟨by decide +kernel, rfl⟩
theorem dL_law_837 : St mL_law 837 (.iaload) 1 838 := ⟨by decide +kernel, rfl⟩
theorem dL_law_838 : St mL_law 838 (.aload_n 0) 1 839 := ⟨by decide +kernel, rfl⟩
theorem dL_law_839 : St mL_law 839 (.iload_n 3) 1 840 := ⟨by decide +kernel, rfl⟩
theorem dL_law_840 : St mL_law 840 (.iconst 3) 1 841 := ⟨by decide +kernel, rfl⟩
theorem dL_law_841 : St mL_law 841 (.iadd) 1 842 := ⟨by decide +kernel, rfl⟩
theorem dL_law_842 : St mL_law 842 (.iaload) 1 843 := ⟨by decide +kernel, rfl⟩
theorem dL_law_843 : St mL_law 843 (.aload_n 0) 1 844 := ⟨by decide +kernel, rfl⟩
theorem dL_law_844 : St mL_law 844 (.iload_n 3) 1 845 := ⟨by decide +kernel, rfl⟩
theorem dL_law_845 : St mL_law 845 (.iconst 4) 1 846 := ⟨by decide +kernel, rfl⟩
theorem dL_law_846 : St mL_law 846 (.iadd) 1 847 := ⟨by decide +kernel, rfl⟩
theorem dL_law_847 : St mL_law 847 (.iaload) 1 848 := ⟨by decide +kernel, rfl⟩
theorem dL_law_848 : St mL_law 848 (.aload_n 0) 1 849 := ⟨by decide +kernel, rfl⟩
theorem dL_law_849 : St mL_law 849 (.iload_n 3) 1 850 := ⟨by decide +kernel, rfl⟩
theorem dL_law_850 : St mL_law 850 (.iconst 5) 1 851 := ⟨by decide +kernel, rfl⟩
theorem dL_law_851 : St mL_law 851 (.iadd) 1 852 := ⟨by decide +kernel, rfl⟩
theorem dL_law_852 : St mL_law 852 (.iaload) 1 853 := ⟨by decide +kernel, rfl⟩
theorem dL_law_853 : St mL_law 853 (.aload_n 0) 1 854 := ⟨by decide +kernel, rfl⟩
theorem dL_law_854 : St mL_law 854 (.iload_n 3) 1 855 := ⟨by decide +kernel, rfl⟩
theorem dL_law_855 : St mL_law 855 (.bipush 6) 2 857 := ⟨by decide +kernel, rfl⟩
theorem dL_law_857 : St mL_law 857 (.iadd) 1 858 := ⟨by decide +kernel, rfl⟩
theorem dL_law_858 : St mL_law 858 (.iaload) 1 859 := ⟨by decide +kernel, rfl⟩
theorem dL_law_859 : St mL_law 859 (.invokevirtual 117) 3 862 := ⟨by decide +kernel, rfl⟩
theorem dL_law_862 : St mL_law 862 (.aload_n 2) 1 863 := ⟨by decide +kernel, rfl⟩
theorem dL_law_863 : St mL_law 863 (.aload_n 0) 1 864 := ⟨by decide +kernel, rfl⟩
theorem dL_law_864 : St mL_law 864 (.iload_n 3) 1 865 := ⟨by decide +kernel, rfl⟩
theorem dL_law_865 : St mL_law 865 (.iconst 1) 1 866 := ⟨by decide +kernel, rfl⟩
theorem dL_law_866 : St mL_law 866 (.iadd) 1 867 := ⟨by decide +kernel, rfl⟩
theorem dL_law_867 : St mL_law 867 (.iaload) 1 868 := ⟨by decide +kernel, rfl⟩
theorem dL_law_868 : St mL_law 868 (.aload_n 0) 1 869 := ⟨by decide +kernel, rfl⟩
theorem dL_law_869 : St mL_law 869 (.iload_n 3) 1 870 := ⟨by decide +kernel, rfl⟩
theorem dL_law_870 : St mL_law 870 (.iconst 2) 1 871 := ⟨by decide +kernel, rfl⟩
theorem dL_law_871 : St mL_law 871 (.iadd) 1 872 := ⟨by decide +kernel, rfl⟩
theorem dL_law_872 : St mL_law 872 (.iaload) 1 873 := ⟨by decide +kernel, rfl⟩
theorem dL_law_873 : St mL_law 873 (.aload_n 0) 1 874 := ⟨by decide +kernel, rfl⟩
theorem dL_law_874 : St mL_law 874 (.iload_n 3) 1 875 := ⟨by decide +kernel, rfl⟩
theorem dL_law_875 : St mL_law 875 (.iconst 3) 1 876 := ⟨by decide +kernel, rfl⟩
theorem dL_law_876 : St mL_law 876 (.iadd) 1 877 := ⟨by decide +kernel, rfl⟩
theorem dL_law_877 : St mL_law 877 (.iaload) 1 878 := ⟨by decide +kernel, rfl⟩
theorem dL_law_878 : St mL_law 878 (.aload_n 0) 1 879 := ⟨by decide +kernel, rfl⟩
theorem dL_law_879 : St mL_law 879 (.iload_n 3) 1 880 := ⟨by decide +kernel, rfl⟩
theorem dL_law_880 : St mL_law 880 (.iconst 4) 1 881 := ⟨by decide +kernel, rfl⟩
theorem dL_law_881 : St mL_law 881 (.iadd) 1 882 := ⟨by decide +kernel, rfl⟩
theorem dL_law_882 : St mL_law 882 (.iaload) 1 883 := ⟨by decide +kernel, rfl⟩
theorem dL_law_883 : St mL_law 883 (.aload_n 0) 1 884 := ⟨by decide +kernel, rfl⟩
theorem dL_law_884 : St mL_law 884 (.iload_n 3) 1 885 := ⟨by decide +kernel, rfl⟩
theorem dL_law_885 : St mL_law 885 (.iconst 5) 1 886 := ⟨by decide +kernel, rfl⟩
theorem dL_law_886 : St mL_law 886 (.iadd) 1 887 := ⟨by decide +kernel, rfl⟩
theorem dL_law_887 : St mL_law 887 (.iaload) 1 888 := ⟨by decide +kernel, rfl⟩
theorem dL_law_888 : St mL_law 888 (.aload_n 0) 1 889 := ⟨by decide +kernel, rfl⟩
theorem dL_law_889 : St mL_law 889 (.iload_n 3) 1 890 := ⟨by decide +kernel, rfl⟩
theorem dL_law_890 : St mL_law 890 (.bipush 6) 2 892 := ⟨by decide +kernel, rfl⟩
theorem dL_law_892 : St mL_law 892 (.iadd) 1 893 := ⟨by decide +kernel, rfl⟩
theorem dL_law_893 : St mL_law 893 (.iaload) 1 894 := ⟨by decide +kernel, rfl⟩
theorem dL_law_894 : St mL_law 894 (.invokevirtual 121) 3 897 := ⟨by decide +kernel, rfl⟩
theorem dL_law_897 : St mL_law 897 (.if_icmp .eq 280) 3 900 := ⟨by decide +kernel, rfl⟩
theorem dL_law_900 : St mL_law 900 (.iconst 0) 1 901 := ⟨by decide +kernel, rfl⟩
theorem dL_law_901 : St mL_law 901 (.ireturn) 1 902 := ⟨by decide +kernel, rfl⟩
theorem dL_law_902 : St mL_law 902 (.aload_n 1) 1 903 := ⟨by decide +kernel, rfl⟩
theorem dL_law_903 : St mL_law 903 (.aload_n 0) 1 904 := ⟨by decide +kernel, rfl⟩
theorem dL_law_904 : St mL_law 904 (.iload_n 3) 1 905 := ⟨by decide +kernel, rfl⟩
theorem dL_law_905 : St mL_law 905 (.iconst 1) 1 906 := ⟨by decide +kernel, rfl⟩
theorem dL_law_906 : St mL_law 906 (.iadd) 1 907 := ⟨by decide +kernel, rfl⟩
theorem dL_law_907 : St mL_law 907 (.iaload) 1 908 := ⟨by decide +kernel, rfl⟩
theorem dL_law_908 : St mL_law 908 (.aload_n 0) 1 909 := ⟨by decide +kernel, rfl⟩
theorem dL_law_909 : St mL_law 909 (.iload_n 3) 1 910 := ⟨by decide +kernel, rfl⟩
theorem dL_law_910 : St mL_law 910 (.iconst 2) 1 911 := ⟨by decide +kernel, rfl⟩
theorem dL_law_911 : St mL_law 911 (.iadd) 1 912 := ⟨by decide +kernel, rfl⟩
theorem dL_law_912 : St mL_law 912 (.iaload) 1 913 := ⟨by decide +kernel, rfl⟩
theorem dL_law_913 : St mL_law 913 (.aload_n 0) 1 914 := ⟨by decide +kernel, rfl⟩
theorem dL_law_914 : St mL_law 914 (.iload_n 3) 1 915 := ⟨by decide +kernel, rfl⟩
theorem dL_law_915 : St mL_law 915 (.iconst 3) 1 916 := ⟨by decide +kernel, rfl⟩
theorem dL_law_916 : St mL_law 916 (.iadd) 1 917 := ⟨by decide +kernel, rfl⟩
theorem dL_law_917 : St mL_law 917 (.iaload) 1 918 := ⟨by decide +kernel, rfl⟩
theorem dL_law_918 : St mL_law 918 (.aload_n 0) 1 919 := ⟨by decide +kernel, rfl⟩
theorem dL_law_919 : St mL_law 919 (.iload_n 3) 1 920 := ⟨by decide +kernel, rfl⟩
theorem dL_law_920 : St mL_law 920 (.iconst 4) 1 921 := ⟨by decide +kernel, rfl⟩
theorem dL_law_921 : St mL_law 921 (.iadd) 1 922 := ⟨by decide +kernel, rfl⟩
theorem dL_law_922 : St mL_law 922 (.iaload) 1 923 := ⟨by decide +kernel, rfl⟩
theorem dL_law_923 : St mL_law 923 (.aload_n 0) 1 924 := ⟨by decide +kernel, rfl⟩
theorem dL_law_924 : St mL_law 924 (.iload_n 3) 1 925 := ⟨by decide +kernel, rfl⟩
theorem dL_law_925 : St mL_law 925 (.iconst 5) 1 926 := ⟨by decide +kernel, rfl⟩
theorem dL_law_926 : St mL_law 926 (.iadd) 1 927 := ⟨by decide +kernel, rfl⟩
theorem dL_law_927 : St mL_law 927 (.iaload) 1 928 := ⟨by decide +kernel, rfl⟩
theorem dL_law_928 : St mL_law 928 (.invokevirtual 122) 3 931 := ⟨by decide +kernel, rfl⟩
theorem dL_law_931 : St mL_law 931 (.aload_n 2) 1 932 := ⟨by decide +kernel, rfl⟩
theorem dL_law_932 : St mL_law 932 (.aload_n 0) 1 933 := ⟨by decide +kernel, rfl⟩
theorem dL_law_933 : St mL_law 933 (.iload_n 3) 1 934 := ⟨by decide +kernel, rfl⟩
theorem dL_law_934 : St mL_law 934 (.iconst 1) 1 935 := ⟨by decide +kernel, rfl⟩
theorem dL_law_935 : St mL_law 935 (.iadd) 1 936 := ⟨by decide +kernel, rfl⟩
theorem dL_law_936 : St mL_law 936 (.iaload) 1 937 := ⟨by decide +kernel, rfl⟩
theorem dL_law_937 : St mL_law 937 (.aload_n 0) 1 938 := ⟨by decide +kernel, rfl⟩
theorem dL_law_938 : St mL_law 938 (.iload_n 3) 1 939 := ⟨by decide +kernel, rfl⟩
theorem dL_law_939 : St mL_law 939 (.iconst 2) 1 940 := ⟨by decide +kernel, rfl⟩
theorem dL_law_940 : St mL_law 940 (.iadd) 1 941 := ⟨by decide +kernel, rfl⟩
theorem dL_law_941 : St mL_law 941 (.iaload) 1 942 := ⟨by decide +kernel, rfl⟩
theorem dL_law_942 : St mL_law 942 (.aload_n 0) 1 943 := ⟨by decide +kernel, rfl⟩
theorem dL_law_943 : St mL_law 943 (.iload_n 3) 1 944 := ⟨by decide +kernel, rfl⟩
theorem dL_law_944 : St mL_law 944 (.iconst 3) 1 945 := ⟨by decide +kernel, rfl⟩
theorem dL_law_945 : St mL_law 945 (.iadd) 1 946 := ⟨by decide +kernel, rfl⟩
theorem dL_law_946 : St mL_law 946 (.iaload) 1 947 := ⟨by decide +kernel, rfl⟩
theorem dL_law_947 : St mL_law 947 (.aload_n 0) 1 948 := ⟨by decide +kernel, rfl⟩
theorem dL_law_948 : St mL_law 948 (.iload_n 3) 1 949 := ⟨by decide +kernel, rfl⟩
theorem dL_law_949 : St mL_law 949 (.iconst 4) 1 950 := ⟨by decide +kernel, rfl⟩
theorem dL_law_950 : St mL_law 950 (.iadd) 1 951 := ⟨by decide +kernel, rfl⟩
theorem dL_law_951 : St mL_law 951 (.iaload) 1 952 := ⟨by decide +kernel, rfl⟩
theorem dL_law_952 : St mL_law 952 (.aload_n 0) 1 953 := ⟨by decide +kernel, rfl⟩
theorem dL_law_953 : St mL_law 953 (.iload_n 3) 1 954 := ⟨by decide +kernel, rfl⟩
theorem dL_law_954 : St mL_law 954 (.iconst 5) 1 955 := ⟨by decide +kernel, rfl⟩
theorem dL_law_955 : St mL_law 955 (.iadd) 1 956 := ⟨by decide +kernel, rfl⟩
theorem dL_law_956 : St mL_law 956 (.iaload) 1 957 := ⟨by decide +kernel, rfl⟩
theorem dL_law_957 : St mL_law 957 (.invokevirtual 126) 3 960 := ⟨by decide +kernel, rfl⟩
theorem dL_law_960 : St mL_law 960 (.if_icmp .eq 217) 3 963 := ⟨by decide +kernel, rfl⟩
theorem dL_law_963 : St mL_law 963 (.iconst 0) 1 964 := ⟨by decide +kernel, rfl⟩
theorem dL_law_964 : St mL_law 964 (.ireturn) 1 965 := ⟨by decide +kernel, rfl⟩
theorem dL_law_965 : St mL_law 965 (.aload_n 1) 1 966 := ⟨by decide +kernel, rfl⟩
theorem dL_law_966 : St mL_law 966 (.aload_n 0) 1 967 := ⟨by decide +kernel, rfl⟩
theorem dL_law_967 : St mL_law 967 (.iload_n 3) 1 968 := ⟨by decide +kernel, rfl⟩
theorem dL_law_968 : St mL_law 968 (.iconst 1) 1 969 := ⟨by decide +kernel, rfl⟩
theorem dL_law_969 : St mL_law 969 (.iadd) 1 970 := ⟨by decide +kernel, rfl⟩
theorem dL_law_970 : St mL_law 970 (.iaload) 1 971 := ⟨by decide +kernel, rfl⟩
theorem dL_law_971 : St mL_law 971 (.aload_n 0) 1 972 := ⟨by decide +kernel, rfl⟩
theorem dL_law_972 : St mL_law 972 (.iload_n 3) 1 973 := ⟨by decide +kernel, rfl⟩
theorem dL_law_973 : St mL_law 973 (.iconst 2) 1 974 := ⟨by decide +kernel, rfl⟩
theorem dL_law_974 : St mL_law 974 (.iadd) 1 975 := ⟨by decide +kernel, rfl⟩
theorem dL_law_975 : St mL_law 975 (.iaload) 1 976 := ⟨by decide +kernel, rfl⟩
theorem dL_law_976 : St mL_law 976 (.aload_n 0) 1 977 := ⟨by decide +kernel, rfl⟩
theorem dL_law_977 : St mL_law 977 (.iload_n 3) 1 978 := ⟨by decide +kernel, rfl⟩
theorem dL_law_978 : St mL_law 978 (.iconst 3) 1 979 := ⟨by decide +kernel, rfl⟩
theorem dL_law_979 : St mL_law 979 (.iadd) 1 980 := ⟨by decide +kernel, rfl⟩
theorem dL_law_980 : St mL_law 980 (.iaload) 1 981 := ⟨by decide +kernel, rfl⟩
theorem dL_law_981 : St mL_law 981 (.invokevirtual 127) 3 984 := ⟨by decide +kernel, rfl⟩
theorem dL_law_984 : St mL_law 984 (.aload_n 2) 1 985 := ⟨by decide +kernel, rfl⟩
theorem dL_law_985 : St mL_law 985 (.aload_n 0) 1 986 := ⟨by decide +kernel, rfl⟩
theorem dL_law_986 : St mL_law 986 (.iload_n 3) 1 987 := ⟨by decide +kernel, rfl⟩
theorem dL_law_987 : St mL_law 987 (.iconst 1) 1 988 := ⟨by decide +kernel, rfl⟩
theorem dL_law_988 : St mL_law 988 (.iadd) 1 989 := ⟨by decide +kernel, rfl⟩
theorem dL_law_989 : St mL_law 989 (.iaload) 1 990 := ⟨by decide +kernel, rfl⟩
theorem dL_law_990 : St mL_law 990 (.aload_n 0) 1 991 := ⟨by decide +kernel, rfl⟩
theorem dL_law_991 : St mL_law 991 (.iload_n 3) 1 992 := ⟨by decide +kernel, rfl⟩
theorem dL_law_992 : St mL_law 992 (.iconst 2) 1 993 := ⟨by decide +kernel, rfl⟩
theorem dL_law_993 : St mL_law 993 (.iadd) 1 994 := ⟨by decide +kernel, rfl⟩
theorem dL_law_994 : St mL_law 994 (.iaload) 1 995 := ⟨by decide +kernel, rfl⟩
theorem dL_law_995 : St mL_law 995 (.aload_n 0) 1 996 := ⟨by decide +kernel, rfl⟩
theorem dL_law_996 : St mL_law 996 (.iload_n 3) 1 997 := ⟨by decide +kernel, rfl⟩
theorem dL_law_997 : St mL_law 997 (.iconst 3) 1 998 := ⟨by decide +kernel, rfl⟩
theorem dL_law_998 : St mL_law 998 (.iadd) 1 999 := ⟨by decide +kernel, rfl⟩
theorem dL_law_999 : St mL_law 999 (.iaload) 1 1000 := ⟨by decide +kernel, rfl⟩
theorem dL_law_1000 : St mL_law 1000 (.invokevirtual 130) 3 1003 := ⟨by decide +kernel, rfl⟩
theorem dL_law_1003 : St mL_law 1003 (.if_icmp .eq 174) 3 1006 := ⟨by decide +kernel, rfl⟩
theorem dL_law_1006 : St mL_law 1006 (.iconst 0) 1 1007 := ⟨by decide +kernel, rfl⟩
theorem dL_law_1007 : St mL_law 1007 (.ireturn) 1 1008 := ⟨by decide +kernel, rfl⟩
theorem dL_law_1008 : St mL_law 1008 (.aload_n 1) 1 1009 := ⟨by decide +kernel, rfl⟩
theorem dL_law_1009 : St mL_law 1009 (.aload_n 0) 1 1010 := ⟨by decide +kernel, rfl⟩
theorem dL_law_1010 : St mL_law 1010 (.iload_n 3) 1 1011 := ⟨by decide +kernel, rfl⟩
theorem dL_law_1011 : St mL_law 1011 (.iconst 1) 1 1012 := ⟨by decide +kernel, rfl⟩
theorem dL_law_1012 : St mL_law 1012 (.iadd) 1 1013 := ⟨by decide +kernel, rfl⟩
theorem dL_law_1013 : St mL_law 1013 (.iaload) 1 1014 := ⟨by decide +kernel, rfl⟩
theorem dL_law_1014 : St mL_law 1014 (.invokevirtual 131) 3 1017 := ⟨by decide +kernel, rfl⟩
theorem dL_law_1017 : St mL_law 1017 (.aload_n 2) 1 1018 := ⟨by decide +kernel, rfl⟩
theorem dL_law_1018 : St mL_law 1018 (.aload_n 0) 1 1019 := ⟨by decide +kernel, rfl⟩
theorem dL_law_1019 : St mL_law 1019 (.iload_n 3) 1 1020 := ⟨by decide +kernel, rfl⟩
theorem dL_law_1020 : St mL_law 1020 (.iconst 1) 1 1021 := ⟨by decide +kernel, rfl⟩
theorem dL_law_1021 : St mL_law 1021 (.iadd) 1 1022 := ⟨by decide +kernel, rfl⟩
theorem dL_law_1022 : St mL_law 1022 (.iaload) 1 1023 := ⟨by decide +kernel, rfl⟩
theorem dL_law_1023 : St mL_law 1023 (.invokevirtual 134) 3 1026 := ⟨by decide +kernel, rfl⟩
theorem dL_law_1026 : St mL_law 1026 (.if_icmp .eq 151) 3 1029 := ⟨by decide +kernel, rfl⟩
theorem dL_law_1029 : St mL_law 1029 (.iconst 0) 1 1030 := ⟨by decide +kernel, rfl⟩
theorem dL_law_1030 : St mL_law 1030 (.ireturn) 1 1031 := ⟨by decide +kernel, rfl⟩
theorem dL_law_1031 : St mL_law 1031 (.aload_n 1) 1 1032 := ⟨by decide +kernel, rfl⟩
theorem dL_law_1032 : St mL_law 1032 (.aload_n 0) 1 1033 := ⟨by decide +kernel, rfl⟩
theorem dL_law_1033 : St mL_law 1033 (.iload_n 3) 1 1034 := ⟨by decide +kernel, rfl⟩
theorem dL_law_1034 : St mL_law 1034 (.iconst 1) 1 1035 := ⟨by decide +kernel, rfl⟩
theorem dL_law_1035 : St mL_law 1035 (.iadd) 1 1036 := ⟨by decide +kernel, rfl⟩
theorem dL_law_1036 : St mL_law 1036 (.iaload) 1 1037 := ⟨by decide +kernel, rfl⟩
theorem dL_law_1037 : St mL_law 1037 (.aload_n 0) 1 1038 := ⟨by decide +kernel, rfl⟩
theorem dL_law_1038 : St mL_law 1038 (.iload_n 3) 1 1039 := ⟨by decide +kernel, rfl⟩
theorem dL_law_1039 : St mL_law 1039 (.iconst 2) 1 1040 := ⟨by decide +kernel, rfl⟩
theorem dL_law_1040 : St mL_law 1040 (.iadd) 1 1041 := ⟨by decide +kernel, rfl⟩
theorem dL_law_1041 : St mL_law 1041 (.iaload) 1 1042 := ⟨by decide +kernel, rfl⟩
theorem dL_law_1042 : St mL_law 1042 (.aload_n 0) 1 1043 := ⟨by decide +kernel, rfl⟩
theorem dL_law_1043 : St mL_law 1043 (.iload_n 3) 1 1044 := ⟨by decide +kernel, rfl⟩
theorem dL_law_1044 : St mL_law 1044 (.iconst 3) 1 1045 := ⟨by decide +kernel, rfl⟩
theorem dL_law_1045 : St mL_law 1045 (.iadd) 1 1046 := ⟨by decide +kernel, rfl⟩
theorem dL_law_1046 : St mL_law 1046 (.iaload) 1 1047 := ⟨by decide +kernel, rfl⟩
theorem dL_law_1047 : St mL_law 1047 (.aload_n 0) 1 1048 := ⟨by decide +kernel, rfl⟩
theorem dL_law_1048 : St mL_law 1048 (.iload_n 3) 1 1049 := ⟨by decide +kernel, rfl⟩
theorem dL_law_1049 : St mL_law 1049 (.iconst 4) 1 1050 := ⟨by decide +kernel, rfl⟩
theorem dL_law_1050 : St mL_law 1050 (.iadd) 1 1051 := ⟨by decide +kernel, rfl⟩
theorem dL_law_1051 : St mL_law 1051 (.iaload) 1 1052 := ⟨by decide +kernel, rfl⟩
theorem dL_law_1052 : St mL_law 1052 (.i2l) 1 1053 := ⟨by decide +kernel, rfl⟩
theorem dL_law_1053 : St mL_law 1053 (.bipush 32) 2 1055 := ⟨by decide +kernel, rfl⟩
theorem dL_law_1055 : St mL_law 1055 (.lshl) 1 1056 := ⟨by decide +kernel, rfl⟩
theorem dL_law_1056 : St mL_law 1056 (.aload_n 0) 1 1057 := ⟨by decide +kernel, rfl⟩
theorem dL_law_1057 : St mL_law 1057 (.iload_n 3) 1 1058 := ⟨by decide +kernel, rfl⟩
theorem dL_law_1058 : St mL_law 1058 (.iconst 5) 1 1059 := ⟨by decide +kernel, rfl⟩
theorem dL_law_1059 : St mL_law 1059 (.iadd) 1 1060 := ⟨by decide +kernel, rfl⟩
theorem dL_law_1060 : St mL_law 1060 (.iaload) 1 1061 := ⟨by decide +kernel, rfl⟩
theorem dL_law_1061 : St mL_law 1061 (.i2l) 1 1062 := ⟨by decide +kernel, rfl⟩
theorem dL_law_1062 : St mL_law 1062 (.ldc2_w 135) 3 1065 := ⟨by decide +kernel, rfl⟩
theorem dL_law_1065 : St mL_law 1065 (.land) 1 1066 := ⟨by decide +kernel, rfl⟩
theorem dL_law_1066 : St mL_law 1066 (.lor) 1 1067 := ⟨by decide +kernel, rfl⟩
theorem dL_law_1067 : St mL_law 1067 (.invokevirtual 137) 3 1070 := ⟨by decide +kernel, rfl⟩
theorem dL_law_1070 : St mL_law 1070 (.aload_n 2) 1 1071 := ⟨by decide +kernel, rfl⟩
theorem dL_law_1071 : St mL_law 1071 (.aload_n 0) 1 1072 := ⟨by decide +kernel, rfl⟩
theorem dL_law_1072 : St mL_law 1072 (.iload_n 3) 1 1073 := ⟨by decide +kernel, rfl⟩
theorem dL_law_1073 : St mL_law 1073 (.iconst 1) 1 1074 := ⟨by decide +kernel, rfl⟩
theorem dL_law_1074 : St mL_law 1074 (.iadd) 1 1075 := ⟨by decide +kernel, rfl⟩
theorem dL_law_1075 : St mL_law 1075 (.iaload) 1 1076 := ⟨by decide +kernel, rfl⟩
theorem dL_law_1076 : St mL_law 1076 (.aload_n 0) 1 1077 := ⟨by decide +kernel, rfl⟩
theorem dL_law_1077 : St mL_law 1077 (.iload_n 3) 1 1078 := ⟨by decide +kernel, rfl⟩
theorem dL_law_1078 : St mL_law 1078 (.iconst 2) 1 1079 := ⟨by decide +kernel, rfl⟩
theorem dL_law_1079 : St mL_law 1079 (.iadd) 1 1080 := ⟨by decide +kernel, rfl⟩
theorem dL_law_1080 : St mL_law 1080 (.iaload) 1 1081 := ⟨by decide +kernel, rfl⟩
theorem dL_law_1081 : St mL_law 1081 (.aload_n 0) 1 1082 := ⟨by decide +kernel, rfl⟩
theorem dL_law_1082 : St mL_law 1082 (.iload_n 3) 1 1083 := ⟨by decide +kernel, rfl⟩
theorem dL_law_1083 : St mL_law 1083 (.iconst 3) 1 1084 := ⟨by decide +kernel, rfl⟩
theorem dL_law_1084 : St mL_law 1084 (.iadd) 1 1085 := ⟨by decide +kernel, rfl⟩
theorem dL_law_1085 : St mL_law 1085 (.iaload) 1 1086 := ⟨by decide +kernel, rfl⟩
theorem dL_law_1086 : St mL_law 1086 (.aload_n 0) 1 1087 := ⟨by decide +kernel, rfl⟩
theorem dL_law_1087 : St mL_law 1087 (.iload_n 3) 1 1088 := ⟨by decide +kernel, rfl⟩
theorem dL_law_1088 : St mL_law 1088 (.iconst 4) 1 1089 := ⟨by decide +kernel, rfl⟩
theorem dL_law_1089 : St mL_law 1089 (.iadd) 1 1090 := ⟨by decide +kernel, rfl⟩
theorem dL_law_1090 : St mL_law 1090 (.iaload) 1 1091 := ⟨by decide +kernel, rfl⟩
theorem dL_law_1091 : St mL_law 1091 (.i2l) 1 1092 := ⟨by decide +kernel, rfl⟩
theorem dL_law_1092 : St mL_law 1092 (.bipush 32) 2 1094 := ⟨by decide +kernel, rfl⟩
theorem dL_law_1094 : St mL_law 1094 (.lshl) 1 1095 := ⟨by decide +kernel, rfl⟩
theorem dL_law_1095 : St mL_law 1095 (.aload_n 0) 1 1096 := ⟨by decide +kernel, rfl⟩
theorem dL_law_1096 : St mL_law 1096 (.iload_n 3) 1 1097 := ⟨by decide +kernel, rfl⟩
theorem dL_law_1097 : St mL_law 1097 (.iconst 5) 1 1098 := ⟨by decide +kernel, rfl⟩
theorem dL_law_1098 : St mL_law 1098 (.iadd) 1 1099 := ⟨by decide +kernel, rfl⟩
theorem dL_law_1099 : St mL_law 1099 (.iaload) 1 1100 := ⟨by decide +kernel, rfl⟩
theorem dL_law_1100 : St mL_law 1100 (.i2l) 1 1101 := ⟨by decide +kernel, rfl⟩
theorem dL_law_1101 : St mL_law 1101 (.ldc2_w 135) 3 1104 := ⟨by decide +kernel, rfl⟩
theorem dL_law_1104 : St mL_law 1104 (.land) 1 1105 := ⟨by decide +kernel, rfl⟩
theorem dL_law_1105 : St mL_law 1105 (.lor) 1 1106 := ⟨by decide +kernel, rfl⟩
theorem dL_law_1106 : St mL_law 1106 (.invokevirtual 141) 3 1109 := ⟨by decide +kernel, rfl⟩
theorem dL_law_1109 : St mL_law 1109 (.if_icmp .eq 68) 3 1112 := ⟨by decide +kernel, rfl⟩
theorem dL_law_1112 : St mL_law 1112 (.iconst 0) 1 1113 := ⟨by decide +kernel, rfl⟩
theorem dL_law_1113 : St mL_law 1113 (.ireturn) 1 1114 := ⟨by decide +kernel, rfl⟩
theorem dL_law_1114 : St mL_law 1114 (.aload_n 1) 1 1115 := ⟨by decide +kernel, rfl⟩
theorem dL_law_1115 : St mL_law 1115 (.aload_n 0) 1 1116 := ⟨by decide +kernel, rfl⟩
theorem dL_law_1116 : St mL_law 1116 (.iload_n 3) 1 1117 := ⟨by decide +kernel, rfl⟩
theorem dL_law_1117 : St mL_law 1117 (.iconst 1) 1 1118 := ⟨by decide +kernel, rfl⟩
theorem dL_law_1118 : St mL_law 1118 (.iadd) 1 1119 := ⟨by decide +kernel, rfl⟩
theorem dL_law_1119 : St mL_law 1119 (.iaload) 1 1120 := ⟨by decide +kernel, rfl⟩
theorem dL_law_1120 : St mL_law 1120 (.aload_n 0) 1 1121 := ⟨by decide +kernel, rfl⟩
theorem dL_law_1121 : St mL_law 1121 (.iload_n 3) 1 1122 := ⟨by decide +kernel, rfl⟩
theorem dL_law_1122 : St mL_law 1122 (.iconst 2) 1 1123 := ⟨by decide +kernel, rfl⟩
theorem dL_law_1123 : St mL_law 1123 (.iadd) 1 1124 := ⟨by decide +kernel, rfl⟩
theorem dL_law_1124 : St mL_law 1124 (.iaload) 1 1125 := ⟨by decide +kernel, rfl⟩
theorem dL_law_1125 : St mL_law 1125 (.aload_n 0) 1 1126 := ⟨by decide +kernel, rfl⟩
theorem dL_law_1126 : St mL_law 1126 (.iload_n 3) 1 1127 := ⟨by decide +kernel, rfl⟩
theorem dL_law_1127 : St mL_law 1127 (.iconst 3) 1 1128 := ⟨by decide +kernel, rfl⟩
theorem dL_law_1128 : St mL_law 1128 (.iadd) 1 1129 := ⟨by decide +kernel, rfl⟩
theorem dL_law_1129 : St mL_law 1129 (.iaload) 1 1130 := ⟨by decide +kernel, rfl⟩
theorem dL_law_1130 : St mL_law 1130 (.aload_n 0) 1 1131 := ⟨by decide +kernel, rfl⟩
theorem dL_law_1131 : St mL_law 1131 (.iload_n 3) 1 1132 := ⟨by decide +kernel, rfl⟩
theorem dL_law_1132 : St mL_law 1132 (.iconst 4) 1 1133 := ⟨by decide +kernel, rfl⟩
theorem dL_law_1133 : St mL_law 1133 (.iadd) 1 1134 := ⟨by decide +kernel, rfl⟩
theorem dL_law_1134 : St mL_law 1134 (.iaload) 1 1135 := ⟨by decide +kernel, rfl⟩
theorem dL_law_1135 : St mL_law 1135 (.aload_n 0) 1 1136 := ⟨by decide +kernel, rfl⟩
theorem dL_law_1136 : St mL_law 1136 (.iload_n 3) 1 1137 := ⟨by decide +kernel, rfl⟩
theorem dL_law_1137 : St mL_law 1137 (.iconst 5) 1 1138 := ⟨by decide +kernel, rfl⟩
theorem dL_law_1138 : St mL_law 1138 (.iadd) 1 1139 := ⟨by decide +kernel, rfl⟩
theorem dL_law_1139 : St mL_law 1139 (.iaload) 1 1140 := ⟨by decide +kernel, rfl⟩
theorem dL_law_1140 : St mL_law 1140 (.invokevirtual 142) 3 1143 := ⟨by decide +kernel, rfl⟩
theorem dL_law_1143 : St mL_law 1143 (.aload_n 2) 1 1144 := ⟨by decide +kernel, rfl⟩
theorem dL_law_1144 : St mL_law 1144 (.aload_n 0) 1 1145 := ⟨by decide +kernel, rfl⟩
theorem dL_law_1145 : St mL_law 1145 (.iload_n 3) 1 1146 := ⟨by decide +kernel, rfl⟩
theorem dL_law_1146 : St mL_law 1146 (.iconst 1) 1 1147 := ⟨by decide +kernel, rfl⟩
theorem dL_law_1147 : St mL_law 1147 (.iadd) 1 1148 := ⟨by decide +kernel, rfl⟩
theorem dL_law_1148 : St mL_law 1148 (.iaload) 1 1149 := ⟨by decide +kernel, rfl⟩
theorem dL_law_1149 : St mL_law 1149 (.aload_n 0) 1 1150 := ⟨by decide +kernel, rfl⟩
theorem dL_law_1150 : St mL_law 1150 (.iload_n 3) 1 1151 := ⟨by decide +kernel, rfl⟩
theorem dL_law_1151 : St mL_law 1151 (.iconst 2) 1 1152 := ⟨by decide +kernel, rfl⟩
theorem dL_law_1152 : St mL_law 1152 (.iadd) 1 1153 := ⟨by decide +kernel, rfl⟩
theorem dL_law_1153 : St mL_law 1153 (.iaload) 1 1154 := ⟨by decide +kernel, rfl⟩
theorem dL_law_1154 : St mL_law 1154 (.aload_n 0) 1 1155 := ⟨by decide +kernel, rfl⟩
theorem dL_law_1155 : St mL_law 1155 (.iload_n 3) 1 1156 := ⟨by decide +kernel, rfl⟩
theorem dL_law_1156 : St mL_law 1156 (.iconst 3) 1 1157 := ⟨by decide +kernel, rfl⟩
theorem dL_law_1157 : St mL_law 1157 (.iadd) 1 1158 := ⟨by decide +kernel, rfl⟩
theorem dL_law_1158 : St mL_law 1158 (.iaload) 1 1159 := ⟨by decide +kernel, rfl⟩
theorem dL_law_1159 : St mL_law 1159 (.aload_n 0) 1 1160 := ⟨by decide +kernel, rfl⟩
theorem dL_law_1160 : St mL_law 1160 (.iload_n 3) 1 1161 := ⟨by decide +kernel, rfl⟩
theorem dL_law_1161 : St mL_law 1161 (.iconst 4) 1 1162 := ⟨by decide +kernel, rfl⟩
theorem dL_law_1162 : St mL_law 1162 (.iadd) 1 1163 := ⟨by decide +kernel, rfl⟩
theorem dL_law_1163 : St mL_law 1163 (.iaload) 1 1164 := ⟨by decide +kernel, rfl⟩
theorem dL_law_1164 : St mL_law 1164 (.aload_n 0) 1 1165 := ⟨by decide +kernel, rfl⟩
theorem dL_law_1165 : St mL_law 1165 (.iload_n 3) 1 1166 := ⟨by decide +kernel, rfl⟩
theorem dL_law_1166 : St mL_law 1166 (.iconst 5) 1 1167 := ⟨by decide +kernel, rfl⟩
theorem dL_law_1167 : St mL_law 1167 (.iadd) 1 1168 := ⟨by decide +kernel, rfl⟩
theorem dL_law_1168 : St mL_law 1168 (.iaload) 1 1169 := ⟨by decide +kernel, rfl⟩
theorem dL_law_1169 : St mL_law 1169 (.invokevirtual 145) 3 1172 := ⟨by decide +kernel, rfl⟩
theorem dL_law_1172 : St mL_law 1172 (.if_icmp .eq 5) 3 1175 := ⟨by decide +kernel, rfl⟩
theorem dL_law_1175 : St mL_law 1175 (.iconst 0) 1 1176 := ⟨by decide +kernel, rfl⟩
theorem dL_law_1176 : St mL_law 1176 (.ireturn) 1 1177 := ⟨by decide +kernel, rfl⟩
theorem dL_law_1177 : St mL_law 1177 (.iinc 3 7) 3 1180 := ⟨by decide +kernel, rfl⟩
theorem dL_law_1180 : St mL_law 1180 (.goto (-1162)) 3 1183 := ⟨by decide +kernel, rfl⟩
theorem dL_law_1183 : St mL_law 1183 (.iconst 1) 1 1184 := ⟨by decide +kernel, rfl⟩
theorem dL_law_1184 : St mL_law 1184 (.ireturn) 1 1185 := ⟨by decide +kernel, rfl⟩
theorem dJ11_isValidCodePoint_9a6ad_0 : St mJ11_isValidCodePoint_9a6ad 0 (.iload_n 0) 1 1 := ⟨by decide +kernel, rfl⟩
theorem dJ11_isValidCodePoint_9a6ad_1 : St mJ11_isValidCodePoint_9a6ad 1 (.bipush 16) 2 3 := ⟨by decide +kernel, rfl⟩
theorem dJ11_isValidCodePoint_9a6ad_3 : St mJ11_isValidCodePoint_9a6ad 3 (.iushr) 1 4 := ⟨by decide +kernel, rfl⟩
theorem dJ11_isValidCodePoint_9a6ad_4 : St mJ11_isValidCodePoint_9a6ad 4 (.istore_n 1) 1 5 := ⟨by decide +kernel, rfl⟩
theorem dJ11_isValidCodePoint_9a6ad_5 : St mJ11_isValidCodePoint_9a6ad 5 (.iload_n 1) 1 6 := ⟨by decide +kernel, rfl⟩
theorem dJ11_isValidCodePoint_9a6ad_6 : St mJ11_isValidCodePoint_9a6ad 6 (.bipush 17) 2 8 := ⟨by decide +kernel, rfl⟩
theorem dJ11_isValidCodePoint_9a6ad_8 : St mJ11_isValidCodePoint_9a6ad 8 (.if_icmp .ge 7) 3 11 := ⟨by decide +kernel, rfl⟩
theorem dJ11_isValidCodePoint_9a6ad_11 : St mJ11_isValidCodePoint_9a6ad 11 (.iconst 1) 1 12 := ⟨by decide +kernel, rfl⟩
theorem dJ11_isValidCodePoint_9a6ad_12 : St mJ11_isValidCodePoint_9a6ad 12 (.goto 4) 3 15 := ⟨by decide +kernel, rfl⟩
theorem dJ11_isValidCodePoint_9a6ad_15 : St mJ11_isValidCodePoint_9a6ad 15 (.iconst 0) 1 16 := ⟨by decide +kernel, rfl⟩
theorem dJ11_isValidCodePoint_9a6ad_16 : St mJ11_isValidCodePoint_9a6ad 16 (.ireturn) 1 17 := ⟨by decide +kernel, rfl⟩
theorem dJ11_highSurrogate_5068e_0 : St mJ11_highSurrogate_5068e 0 (.iload_n 0) 1 1 := ⟨by decide +kernel, rfl⟩
theorem dJ11_highSurrogate_5068e_1 : St mJ11_highSurrogate_5068e 1 (.bipush 10) 2 3 := ⟨by decide +kernel, rfl⟩
theorem dJ11_highSurrogate_5068e_3 : St mJ11_highSurrogate_5068e 3 (.iushr) 1 4 := ⟨by decide +kernel, rfl⟩
theorem dJ11_highSurrogate_5068e_4 : St mJ11_highSurrogate_5068e 4 (.ldc 110) 2 6 := ⟨by decide +kernel, rfl⟩
theorem dJ11_highSurrogate_5068e_6 : St mJ11_highSurrogate_5068e 6 (.iadd) 1 7 := ⟨by decide +kernel, rfl⟩
theorem dJ11_highSurrogate_5068e_7 : St mJ11_highSurrogate_5068e 7 (.i2c) 1 8 := ⟨by decide +kernel, rfl⟩
theorem dJ11_highSurrogate_5068e_8 : St mJ11_highSurrogate_5068e 8 (.ireturn) 1 9 := ⟨by decide +kernel, rfl⟩
theorem dJ11_lowSurrogate_5068e_0 : St mJ11_lowSurrogate_5068e 0 (.iload_n 0) 1 1 := ⟨by decide +kernel, rfl⟩
theorem dJ11_lowSurrogate_5068e_1 : St mJ11_lowSurrogate_5068e 1 (.sipush 1023) 3 4 := ⟨by decide +kernel, rfl⟩
theorem dJ11_lowSurrogate_5068e_4 : St mJ11_lowSurrogate_5068e 4 (.iand) 1 5 := ⟨by decide +kernel, rfl⟩
theorem dJ11_lowSurrogate_5068e_5 : St mJ11_lowSurrogate_5068e 5 (.ldc 76) 2 7 := ⟨by decide +kernel, rfl⟩
theorem dJ11_lowSurrogate_5068e_7 : St mJ11_lowSurrogate_5068e 7 (.iadd) 1 8 := ⟨by decide +kernel, rfl⟩
theorem dJ11_lowSurrogate_5068e_8 : St mJ11_lowSurrogate_5068e 8 (.i2c) 1 9 := ⟨by decide +kernel, rfl⟩
theorem dJ11_lowSurrogate_5068e_9 : St mJ11_lowSurrogate_5068e 9 (.ireturn) 1 10 := ⟨by decide +kernel, rfl⟩
theorem dJ6_bitCount_0f7a4_0 : St mJ6_bitCount_0f7a4 0 (.iload_n 0) 1 1 := ⟨by decide +kernel, rfl⟩
theorem dJ6_bitCount_0f7a4_1 : St mJ6_bitCount_0f7a4 1 (.iload_n 0) 1 2 := ⟨by decide +kernel, rfl⟩
theorem dJ6_bitCount_0f7a4_2 : St mJ6_bitCount_0f7a4 2 (.iconst 1) 1 3 := ⟨by decide +kernel, rfl⟩
theorem dJ6_bitCount_0f7a4_3 : St mJ6_bitCount_0f7a4 3 (.iushr) 1 4 := ⟨by decide +kernel, rfl⟩
theorem dJ6_bitCount_0f7a4_4 : St mJ6_bitCount_0f7a4 4 (.ldc_w 265) 3 7 := ⟨by decide +kernel, rfl⟩
theorem dJ6_bitCount_0f7a4_7 : St mJ6_bitCount_0f7a4 7 (.iand) 1 8 := ⟨by decide +kernel, rfl⟩
theorem dJ6_bitCount_0f7a4_8 : St mJ6_bitCount_0f7a4 8 (.isub) 1 9 := ⟨by decide +kernel, rfl⟩
theorem dJ6_bitCount_0f7a4_9 : St mJ6_bitCount_0f7a4 9 (.istore_n 0) 1 10 := ⟨by decide +kernel, rfl⟩
theorem dJ6_bitCount_0f7a4_10 : St mJ6_bitCount_0f7a4 10 (.iload_n 0) 1 11 := ⟨by decide +kernel, rfl⟩
theorem dJ6_bitCount_0f7a4_11 : St mJ6_bitCount_0f7a4 11 (.ldc_w 266) 3 14 := ⟨by decide +kernel, rfl⟩
theorem dJ6_bitCount_0f7a4_14 : St mJ6_bitCount_0f7a4 14 (.iand) 1 15 := ⟨by decide +kernel, rfl⟩
theorem dJ6_bitCount_0f7a4_15 : St mJ6_bitCount_0f7a4 15 (.iload_n 0) 1 16 := ⟨by decide +kernel, rfl⟩
theorem dJ6_bitCount_0f7a4_16 : St mJ6_bitCount_0f7a4 16 (.iconst 2) 1 17 := ⟨by decide +kernel, rfl⟩
theorem dJ6_bitCount_0f7a4_17 : St mJ6_bitCount_0f7a4 17 (.iushr) 1 18 := ⟨by decide +kernel, rfl⟩
theorem dJ6_bitCount_0f7a4_18 : St mJ6_bitCount_0f7a4 18 (.ldc_w 266) 3 21 := ⟨by decide +kernel, rfl⟩
theorem dJ6_bitCount_0f7a4_21 : St mJ6_bitCount_0f7a4 21 (.iand) 1 22 := ⟨by decide +kernel, rfl⟩
theorem dJ6_bitCount_0f7a4_22 : St mJ6_bitCount_0f7a4 22 (.iadd) 1 23 := ⟨by decide +kernel, rfl⟩
theorem dJ6_bitCount_0f7a4_23 : St mJ6_bitCount_0f7a4 23 (.istore_n 0) 1 24 := ⟨by decide +kernel, rfl⟩
theorem dJ6_bitCount_0f7a4_24 : St mJ6_bitCount_0f7a4 24 (.iload_n 0) 1 25 := ⟨by decide +kernel, rfl⟩
theorem dJ6_bitCount_0f7a4_25 : St mJ6_bitCount_0f7a4 25 (.iload_n 0) 1 26 := ⟨by decide +kernel, rfl⟩
theorem dJ6_bitCount_0f7a4_26 : St mJ6_bitCount_0f7a4 26 (.iconst 4) 1 27 := ⟨by decide +kernel, rfl⟩
theorem dJ6_bitCount_0f7a4_27 : St mJ6_bitCount_0f7a4 27 (.iushr) 1 28 := ⟨by decide +kernel, rfl⟩
theorem dJ6_bitCount_0f7a4_28 : St mJ6_bitCount_0f7a4 28 (.iadd) 1 29 := ⟨by decide +kernel, rfl⟩
theorem dJ6_bitCount_0f7a4_29 : St mJ6_bitCount_0f7a4 29 (.ldc_w 267) 3 32 := ⟨by decide +kernel, rfl⟩
theorem dJ6_bitCount_0f7a4_32 : St mJ6_bitCount_0f7a4 32 (.iand) 1 33 := ⟨by decide +kernel, rfl⟩
theorem dJ6_bitCount_0f7a4_33 : St mJ6_bitCount_0f7a4 33 (.istore_n 0) 1 34 := ⟨by decide +kernel, rfl⟩
theorem dJ6_bitCount_0f7a4_34 : St mJ6_bitCount_0f7a4 34 (.iload_n 0) 1 35 := ⟨by decide +kernel, rfl⟩
theorem dJ6_bitCount_0f7a4_35 : St mJ6_bitCount_0f7a4 35 (.iload_n 0) 1 36 := ⟨by decide +kernel, rfl⟩
theorem dJ6_bitCount_0f7a4_36 : St mJ6_bitCount_0f7a4 36 (.bipush 8) 2 38 := ⟨by decide +kernel, rfl⟩
theorem dJ6_bitCount_0f7a4_38 : St mJ6_bitCount_0f7a4 38 (.iushr) 1 39 := ⟨by decide +kernel, rfl⟩
theorem dJ6_bitCount_0f7a4_39 : St mJ6_bitCount_0f7a4 39 (.iadd) 1 40 := ⟨by decide +kernel, rfl⟩
theorem dJ6_bitCount_0f7a4_40 : St mJ6_bitCount_0f7a4 40 (.istore_n 0) 1 41 := ⟨by decide +kernel, rfl⟩
theorem dJ6_bitCount_0f7a4_41 : St mJ6_bitCount_0f7a4 41 (.iload_n 0) 1 42 := ⟨by decide +kernel, rfl⟩
theorem dJ6_bitCount_0f7a4_42 : St mJ6_bitCount_0f7a4 42 (.iload_n 0) 1 43 := ⟨by decide +kernel, rfl⟩
theorem dJ6_bitCount_0f7a4_43 : St mJ6_bitCount_0f7a4 43 (.bipush 16) 2 45 := ⟨by decide +kernel, rfl⟩
theorem dJ6_bitCount_0f7a4_45 : St mJ6_bitCount_0f7a4 45 (.iushr) 1 46 := ⟨by decide +kernel, rfl⟩
theorem dJ6_bitCount_0f7a4_46 : St mJ6_bitCount_0f7a4 46 (.iadd) 1 47 := ⟨by decide +kernel, rfl⟩
theorem dJ6_bitCount_0f7a4_47 : St mJ6_bitCount_0f7a4 47 (.istore_n 0) 1 48 := ⟨by decide +kernel, rfl⟩
theorem dJ6_bitCount_0f7a4_48 : St mJ6_bitCount_0f7a4 48 (.iload_n 0) 1 49 := ⟨by decide +kernel, rfl⟩
theorem dJ6_bitCount_0f7a4_49 : St mJ6_bitCount_0f7a4 49 (.bipush 63) 2 51 := ⟨by decide +kernel, rfl⟩
theorem dJ6_bitCount_0f7a4_51 : St mJ6_bitCount_0f7a4 51 (.iand) 1 52 := ⟨by decide +kernel, rfl⟩
theorem dJ6_bitCount_0f7a4_52 : St mJ6_bitCount_0f7a4 52 (.ireturn) 1 53 := ⟨by decide +kernel, rfl⟩
theorem dJ9_max_7cf53_0 : St mJ9_max_7cf53 0 (.iload_n 0) 1 1 := ⟨by decide +kernel, rfl⟩
theorem dJ9_max_7cf53_1 : St mJ9_max_7cf53 1 (.iload_n 1) 1 2 := ⟨by decide +kernel, rfl⟩
theorem dJ9_max_7cf53_2 : St mJ9_max_7cf53 2 (.if_icmp .lt 7) 3 5 := ⟨by decide +kernel, rfl⟩
theorem dJ9_max_7cf53_5 : St mJ9_max_7cf53 5 (.iload_n 0) 1 6 := ⟨by decide +kernel, rfl⟩
theorem dJ9_max_7cf53_6 : St mJ9_max_7cf53 6 (.goto 4) 3 9 := ⟨by decide +kernel, rfl⟩
theorem dJ9_max_7cf53_9 : St mJ9_max_7cf53 9 (.iload_n 1) 1 10 := ⟨by decide +kernel, rfl⟩
theorem dJ9_max_7cf53_10 : St mJ9_max_7cf53 10 (.ireturn) 1 11 := ⟨by decide +kernel, rfl⟩
theorem dJ9_min_7cf53_0 : St mJ9_min_7cf53 0 (.iload_n 0) 1 1 := ⟨by decide +kernel, rfl⟩
theorem dJ9_min_7cf53_1 : St mJ9_min_7cf53 1 (.iload_n 1) 1 2 := ⟨by decide +kernel, rfl⟩
theorem dJ9_min_7cf53_2 : St mJ9_min_7cf53 2 (.if_icmp .gt 7) 3 5 := ⟨by decide +kernel, rfl⟩
theorem dJ9_min_7cf53_5 : St mJ9_min_7cf53 5 (.iload_n 0) 1 6 := ⟨by decide +kernel, rfl⟩
theorem dJ9_min_7cf53_6 : St mJ9_min_7cf53 6 (.goto 4) 3 9 := ⟨by decide +kernel, rfl⟩
theorem dJ9_min_7cf53_9 : St mJ9_min_7cf53 9 (.iload_n 1) 1 10 := ⟨by decide +kernel, rfl⟩
theorem dJ9_min_7cf53_10 : St mJ9_min_7cf53 10 (.ireturn) 1 11 := ⟨by decide +kernel, rfl⟩
theorem dJ0_length_8abf5_0 : St mJ0_length_8abf5 0 (.aload_n 0) 1 1 := ⟨by decide +kernel, rfl⟩
theorem dJ0_length_8abf5_1 : St mJ0_length_8abf5 1 (.getfield 9) 3 4 := ⟨by decide +kernel, rfl⟩
theorem dJ0_length_8abf5_4 : St mJ0_length_8abf5 4 (.arraylength) 1 5 := ⟨by decide +kernel, rfl⟩
theorem dJ0_length_8abf5_5 : St mJ0_length_8abf5 5 (.aload_n 0) 1 6 := ⟨by decide +kernel, rfl⟩
theorem dJ0_length_8abf5_6 : St mJ0_length_8abf5 6 (.invokevirtual 335) 3 9 := ⟨by decide +kernel, rfl⟩
theorem dJ0_length_8abf5_9 : St mJ0_length_8abf5 9 (.ishr) 1 10 := ⟨by decide +kernel, rfl⟩
theorem dJ0_length_8abf5_10 : St mJ0_length_8abf5 10 (.ireturn) 1 11 := ⟨by decide +kernel, rfl⟩
theorem dJ0_indexOf_0f7a4_0 : St mJ0_indexOf_0f7a4 0 (.aload_n 0) 1 1 := ⟨by decide +kernel, rfl⟩
theorem dJ0_indexOf_0f7a4_1 : St mJ0_indexOf_0f7a4 1 (.iload_n 1) 1 2 := ⟨by decide +kernel, rfl⟩
theorem dJ0_indexOf_0f7a4_2 : St mJ0_indexOf_0f7a4 2 (.iconst 0) 1 3 := ⟨by decide +kernel, rfl⟩
theorem dJ0_indexOf_0f7a4_3 : St mJ0_indexOf_0f7a4 3 (.invokevirtual 633) 3 6 := ⟨by decide +kernel, rfl⟩
theorem dJ0_indexOf_0f7a4_6 : St mJ0_indexOf_0f7a4 6 (.ireturn) 1 7 := ⟨by decide +kernel, rfl⟩
theorem dJ0_indexOf_7cf53_0 : St mJ0_indexOf_7cf53 0 (.aload_n 0) 1 1 := ⟨by decide +kernel, rfl⟩
theorem dJ0_indexOf_7cf53_1 : St mJ0_indexOf_7cf53 1 (.invokevirtual 492) 3 4 := ⟨by decide +kernel, rfl⟩
theorem dJ0_indexOf_7cf53_4 : St mJ0_indexOf_7cf53 4 (.ifCond .eq 19) 3 7 := ⟨by decide +kernel, rfl⟩
theorem dJ0_indexOf_7cf53_7 : St mJ0_indexOf_7cf53 7 (.aload_n 0) 1 8 := ⟨by decide +kernel, rfl⟩
theorem dJ0_indexOf_7cf53_8 : St mJ0_indexOf_7cf53 8 (.getfield 9) 3 11 := ⟨by decide +kernel, rfl⟩
theorem dJ0_indexOf_7cf53_11 : St mJ0_indexOf_7cf53 11 (.iload_n 1) 1 12 := ⟨by decide +kernel, rfl⟩
theorem dJ0_indexOf_7cf53_12 : St mJ0_indexOf_7cf53 12 (.iload_n 2) 1 13 := ⟨by decide +kernel, rfl⟩
theorem dJ0_indexOf_7cf53_13 : St mJ0_indexOf_7cf53 13 (.aload_n 0) 1 14 := ⟨by decide +kernel, rfl⟩
theorem dJ0_indexOf_7cf53_14 : St mJ0_indexOf_7cf53 14 (.invokevirtual 505) 3 17 := ⟨by decide +kernel, rfl⟩
theorem dJ0_indexOf_7cf53_17 : St mJ0_indexOf_7cf53 17 (.invokestatic 637) 3 20 := ⟨by decide +kernel, rfl⟩
theorem dJ0_indexOf_7cf53_20 : St mJ0_indexOf_7cf53 20 (.goto 16) 3 23 := ⟨by decide +kernel, rfl⟩
theorem dJ0_indexOf_7cf53_23 : St mJ0_indexOf_7cf53 23 (.aload_n 0) 1 24 := ⟨by decide +kernel, rfl⟩
theorem dJ0_indexOf_7cf53_24 : St mJ0_indexOf_7cf53 24 (.getfield 9) 3 27 := ⟨by decide +kernel, rfl⟩
theorem dJ0_indexOf_7cf53_27 : St mJ0_indexOf_7cf53 27 (.iload_n 1) 1 28 := ⟨by decide +kernel, rfl⟩
theorem dJ0_indexOf_7cf53_28 : St mJ0_indexOf_7cf53 28 (.iload_n 2) 1 29 := ⟨by decide +kernel, rfl⟩
theorem dJ0_indexOf_7cf53_29 : St mJ0_indexOf_7cf53 29 (.aload_n 0) 1 30 := ⟨by decide +kernel, rfl⟩
theorem dJ0_indexOf_7cf53_30 : St mJ0_indexOf_7cf53 30 (.invokevirtual 505) 3 33 := ⟨by decide +kernel, rfl⟩
theorem dJ0_indexOf_7cf53_33 : St mJ0_indexOf_7cf53 33 (.invokestatic 640) 3 36 := ⟨by decide +kernel, rfl⟩
theorem dJ0_indexOf_7cf53_36 : St mJ0_indexOf_7cf53 36 (.ireturn) 1 37 := ⟨by decide +kernel, rfl⟩
theorem dJ0_coder_7d493_0 : St mJ0_coder_7d493 0 (.getstatic 38) 3 3 := ⟨by decide +kernel, rfl⟩
theorem dJ0_coder_7d493_3 : St mJ0_coder_7d493 3 (.ifCond .eq 10) 3 6 := ⟨by decide +kernel, rfl⟩
theorem dJ0_coder_7d493_6 : St mJ0_coder_7d493 6 (.aload_n 0) 1 7 := ⟨by decide +kernel, rfl⟩
theorem dJ0_coder_7d493_7 : St mJ0_coder_7d493 7 (.getfield 15) 3 10 := ⟨by decide +kernel, rfl⟩
theorem dJ0_coder_7d493_10 : St mJ0_coder_7d493 10 (.goto 4) 3 13 := ⟨by decide +kernel, rfl⟩
theorem dJ0_coder_7d493_13 : St mJ0_coder_7d493 13 (.iconst 1) 1 14 := ⟨by decide +kernel, rfl⟩
theorem dJ0_coder_7d493_14 : St mJ0_coder_7d493 14 (.ireturn) 1 15 := ⟨by decide +kernel, rfl⟩
theorem dJ0_isLatin1_aae02_0 : St mJ0_isLatin1_aae02 0 (.getstatic 38) 3 3 := ⟨by decide +kernel, rfl⟩
theorem dJ0_isLatin1_aae02_3 : St mJ0_isLatin1_aae02 3 (.ifCond .eq 14) 3 6 := ⟨by decide +kernel, rfl⟩
theorem dJ0_isLatin1_aae02_6 : St mJ0_isLatin1_aae02 6 (.aload_n 0) 1 7 := ⟨by decide +kernel, rfl⟩
theorem dJ0_isLatin1_aae02_7 : St mJ0_isLatin1_aae02 7 (.getfield 15) 3 10 := ⟨by decide +kernel, rfl⟩
theorem dJ0_isLatin1_aae02_10 : St mJ0_isLatin1_aae02 10 (.ifCond .ne 7) 3 13 := ⟨by decide +kernel, rfl⟩
theorem dJ0_isLatin1_aae02_13 : St mJ0_isLatin1_aae02 13 (.iconst 1) 1 14 := ⟨by decide +kernel, rfl⟩
theorem dJ0_isLatin1_aae02_14 : St mJ0_isLatin1_aae02 14 (.goto 4) 3 17 := ⟨by decide +kernel, rfl⟩
theorem dJ0_isLatin1_aae02_17 : St mJ0_isLatin1_aae02 17 (.iconst 0) 1 18 := ⟨by decide +kernel, rfl⟩
theorem dJ0_isLatin1_aae02_18 : St mJ0_isLatin1_aae02 18 (.ireturn) 1 19 := ⟨by decide +kernel, rfl⟩
theorem dJ0_checkBoundsBeginEnd_23922_0 : St mJ0_checkBoundsBeginEnd_23922 0 (.iload_n 0) 1 1 := ⟨by decide +kernel, rfl⟩
theorem dJ0_checkBoundsBeginEnd_23922_1 : St mJ0_checkBoundsBeginEnd_23922 1 (.iload_n 1) 1 2 := ⟨by decide +kernel, rfl⟩
theorem dJ0_checkBoundsBeginEnd_23922_2 : St mJ0_checkBoundsBeginEnd_23922 2 (.iload_n 2) 1 3 := ⟨by decide +kernel, rfl⟩
theorem dJ0_checkBoundsBeginEnd_23922_3 : St mJ0_checkBoundsBeginEnd_23922 3 (.getstatic 1053) 3 6 := ⟨by decide +kernel, rfl⟩
theorem dJ0_checkBoundsBeginEnd_23922_6 : St mJ0_checkBoundsBeginEnd_23922 6 (.invokestatic 1062) 3 9 := ⟨by decide +kernel, rfl⟩
theorem dJ0_checkBoundsBeginEnd_23922_9 : St mJ0_checkBoundsBeginEnd_23922 9 (.pop) 1 10 := ⟨by decide +kernel, rfl⟩
theorem dJ0_checkBoundsBeginEnd_23922_10 : St mJ0_checkBoundsBeginEnd_23922 10 (.return_) 1 11 := ⟨by decide +kernel, rfl⟩
theorem dJ1_canEncode_9a6ad_0 : St mJ1_canEncode_9a6ad 0 (.iload_n 0) 1 1 := ⟨by decide +kernel, rfl⟩
theorem dJ1_canEncode_9a6ad_1 : St mJ1_canEncode_9a6ad 1 (.ifCond .lt 14) 3 4 := ⟨by decide +kernel, rfl⟩
theorem dJ1_canEncode_9a6ad_4 : St mJ1_canEncode_9a6ad 4 (.iload_n 0) 1 5 := ⟨by decide +kernel, rfl⟩
theorem dJ1_canEncode_9a6ad_5 : St mJ1_canEncode_9a6ad 5 (.sipush 255) 3 8 := ⟨by decide +kernel, rfl⟩
theorem dJ1_canEncode_9a6ad_8 : St mJ1_canEncode_9a6ad 8 (.if_icmp .gt 7) 3 11 := ⟨by decide +kernel, rfl⟩
theorem dJ1_canEncode_9a6ad_11 : St mJ1_canEncode_9a6ad 11 (.iconst 1) 1 12 := ⟨by decide +kernel, rfl⟩
theorem dJ1_canEncode_9a6ad_12 : St mJ1_canEncode_9a6ad 12 (.goto 4) 3 15 := ⟨by decide +kernel, rfl⟩
theorem dJ1_canEncode_9a6ad_15 : St mJ1_canEncode_9a6ad 15 (.iconst 0) 1 16 := ⟨by decide +kernel, rfl⟩
theorem dJ1_canEncode_9a6ad_16 : St mJ1_canEncode_9a6ad 16 (.ireturn) 1 17 := ⟨by decide +kernel, rfl⟩
theorem dJ1_indexOf_4cfef_0 : St mJ1_indexOf_4cfef 0 (.iload_n 1) 1 1 := ⟨by decide +kernel, rfl⟩
theorem dJ1_indexOf_4cfef_1 : St mJ1_indexOf_4cfef 1 (.invokestatic 88) 3 4 := ⟨by decide +kernel, rfl⟩
theorem dJ1_indexOf_4cfef_4 : St mJ1_indexOf_4cfef 4 (.ifCond .ne 5) 3 7 := ⟨by decide +kernel, rfl⟩
theorem dJ1_indexOf_4cfef_7 : St mJ1_indexOf_4cfef 7 (.iconst (-1)) 1 8 := ⟨by decide +kernel, rfl⟩
theorem dJ1_indexOf_4cfef_8 : St mJ1_indexOf_4cfef 8 (.ireturn) 1 9 := ⟨by decide +kernel, rfl⟩
theorem dJ1_indexOf_4cfef_9 : St mJ1_indexOf_4cfef 9 (.iload_n 2) 1 10 := ⟨by decide +kernel, rfl⟩
theorem dJ1_indexOf_4cfef_10 : St mJ1_indexOf_4cfef 10 (.iconst 0) 1 11 := ⟨by decide +kernel, rfl⟩
theorem dJ1_indexOf_4cfef_11 : St mJ1_indexOf_4cfef 11 (.invokestatic 92) 3 14 := ⟨by decide +kernel, rfl⟩
theorem dJ1_indexOf_4cfef_14 : St mJ1_indexOf_4cfef 14 (.istore_n 2) 1 15 := ⟨by decide +kernel, rfl⟩
theorem dJ1_indexOf_4cfef_15 : St mJ1_indexOf_4cfef 15 (.iload_n 3) 1 16 := ⟨by decide +kernel, rfl⟩
theorem dJ1_indexOf_4cfef_16 : St mJ1_indexOf_4cfef 16 (.aload_n 0) 1 17 := ⟨by decide +kernel, rfl⟩
theorem dJ1_indexOf_4cfef_17 : St mJ1_indexOf_4cfef 17 (.arraylength) 1 18 := ⟨by decide +kernel, rfl⟩
theorem dJ1_indexOf_4cfef_18 : St mJ1_indexOf_4cfef 18 (.invokestatic 38) 3 21 := ⟨by decide +kernel, rfl⟩
theorem dJ1_indexOf_4cfef_21 : St mJ1_indexOf_4cfef 21 (.istore_n 3) 1 22 := ⟨by decide +kernel, rfl⟩
theorem dJ1_indexOf_4cfef_22 : St mJ1_indexOf_4cfef 22 (.iload_n 2) 1 23 := ⟨by decide +kernel, rfl⟩
theorem dJ1_indexOf_4cfef_23 : St mJ1_indexOf_4cfef 23 (.iload_n 3) 1 24 := ⟨by decide +kernel, rfl⟩
theorem dJ1_indexOf_4cfef_24 : St mJ1_indexOf_4cfef 24 (.if_icmp .lt 5) 3 27 := ⟨by decide +kernel, rfl⟩
theorem dJ1_indexOf_4cfef_27 : St mJ1_indexOf_4cfef 27 (.iconst (-1)) 1 28 := ⟨by decide +kernel, rfl⟩
theorem dJ1_indexOf_4cfef_28 : St mJ1_indexOf_4cfef 28 (.ireturn) 1 29 := ⟨by decide +kernel, rfl⟩
theorem dJ1_indexOf_4cfef_29 : St mJ1_indexOf_4cfef 29 (.aload_n 0) 1 30 := ⟨by decide +kernel, rfl⟩
theorem dJ1_indexOf_4cfef_30 : St mJ1_indexOf_4cfef 30 (.iload_n 1) 1 31 := ⟨by decide +kernel, rfl⟩
theorem dJ1_indexOf_4cfef_31 : St mJ1_indexOf_4cfef 31 (.iload_n 2) 1 32 := ⟨by decide +kernel, rfl⟩
theorem dJ1_indexOf_4cfef_32 : St mJ1_indexOf_4cfef 32 (.iload_n 3) 1 33 := ⟨by decide +kernel, rfl⟩
theorem dJ1_indexOf_4cfef_33 : St mJ1_indexOf_4cfef 33 (.invokestatic 95) 3 36 := ⟨by decide +kernel, rfl⟩
theorem dJ1_indexOf_4cfef_36 : St mJ1_indexOf_4cfef 36 (.ireturn) 1 37 := ⟨by decide +kernel, rfl⟩
theorem dJ1_indexOfChar_4cfef_0 : St mJ1_indexOfChar_4cfef 0 (.iload_n 1) 1 1 := ⟨by decide +kernel, rfl⟩
theorem dJ1_indexOfChar_4cfef_1 : St mJ1_indexOfChar_4cfef 1 (.i2b) 1 2 := ⟨by decide +kernel, rfl⟩
theorem dJ1_indexOfChar_4cfef_2 : St mJ1_indexOfChar_4cfef 2 (.istore 4) 2 4 := ⟨by decide +kernel, rfl⟩
theorem dJ1_indexOfChar_4cfef_4 : St mJ1_indexOfChar_4cfef 4 (.iload_n 2) 1 5 := ⟨by decide +kernel, rfl⟩
theorem dJ1_indexOfChar_4cfef_5 : St mJ1_indexOfChar_4cfef 5 (.istore 5) 2 7 := ⟨by decide +kernel, rfl⟩
theorem dJ1_indexOfChar_4cfef_7 : St mJ1_indexOfChar_4cfef 7 (.iload 5) 2 9 := ⟨by decide +kernel, rfl⟩
theorem dJ1_indexOfChar_4cfef_9 : St mJ1_indexOfChar_4cfef 9 (.iload_n 3) 1 10 := ⟨by decide +kernel, rfl⟩
theorem dJ1_indexOfChar_4cfef_10 : St mJ1_indexOfChar_4cfef 10 (.if_icmp .ge 21) 3 13 := ⟨by decide +kernel, rfl⟩
theorem dJ1_indexOfChar_4cfef_13 : St mJ1_indexOfChar_4cfef 13 (.aload_n 0) 1 14 := ⟨by decide +kernel, rfl⟩
theorem dJ1_indexOfChar_4cfef_14 : St mJ1_indexOfChar_4cfef 14 (.iload 5) 2 16 := ⟨by decide +kernel, rfl⟩
theorem dJ1_indexOfChar_4cfef_16 : St mJ1_indexOfChar_4cfef 16 (.baload) 1 17 := ⟨by decide +kernel, rfl⟩
theorem dJ1_indexOfChar_4cfef_17 : St mJ1_indexOfChar_4cfef 17 (.iload 4) 2 19 := ⟨by decide +kernel, rfl⟩
theorem dJ1_indexOfChar_4cfef_19 : St mJ1_indexOfChar_4cfef 19 (.if_icmp .ne 6) 3 22 := ⟨by decide +kernel, rfl⟩
theorem dJ1_indexOfChar_4cfef_22 : St mJ1_indexOfChar_4cfef 22 (.iload 5) 2 24 := ⟨by decide +kernel, rfl⟩
theorem dJ1_indexOfChar_4cfef_24 : St mJ1_indexOfChar_4cfef 24 (.ireturn) 1 25 := ⟨by decide +kernel, rfl⟩
theorem dJ1_indexOfChar_4cfef_25 : St mJ1_indexOfChar_4cfef 25 (.iinc 5 1) 3 28 := ⟨by decide +kernel, rfl⟩
theorem dJ1_indexOfChar_4cfef_28 : St mJ1_indexOfChar_4cfef 28 (.goto (-21)) 3 31 := ⟨by decide +kernel, rfl⟩
theorem dJ1_indexOfChar_4cfef_31 : St mJ1_indexOfChar_4cfef 31 (.iconst (-1)) 1 32 := ⟨by decide +kernel, rfl⟩
theorem dJ1_indexOfChar_4cfef_32 : St mJ1_indexOfChar_4cfef 32 (.ireturn) 1 33 := ⟨by decide +kernel, rfl⟩
theorem dJ2_getChar_3b067_0 : St mJ2_getChar_3b067 0 (.getstatic 44) 3 3 := ⟨by decide +kernel, rfl⟩
theorem dJ2_getChar_3b067_3 : St mJ2_getChar_3b067 3 (.ifCond .ne 25) 3 6 := ⟨by decide +kernel, rfl⟩
theorem dJ2_getChar_3b067_6 : St mJ2_getChar_3b067 6 (.iload_n 1) 1 7 := ⟨by decide +kernel, rfl⟩
theorem dJ2_getChar_3b067_7 : St mJ2_getChar_3b067 7 (.ifCond .lt 11) 3 10 := ⟨by decide +kernel, rfl⟩
theorem dJ2_getChar_3b067_10 : St mJ2_getChar_3b067 10 (.iload_n 1) 1 11 := ⟨by decide +kernel, rfl⟩
theorem dJ2_getChar_3b067_11 : St mJ2_getChar_3b067 11 (.aload_n 0) 1 12 := ⟨by decide +kernel, rfl⟩
theorem dJ2_getChar_3b067_12 : St mJ2_getChar_3b067 12 (.invokestatic 48) 3 15 := ⟨by decide +kernel, rfl⟩
theorem dJ2_getChar_3b067_15 : St mJ2_getChar_3b067 15 (.if_icmp .lt 13) 3 18 := ⟨by decide +kernel, rfl⟩
theorem dJ2_getChar_3b067_18 : St mJ2_getChar_3b067 18 (.new 52) 3 21 := ⟨by decide +kernel, rfl⟩
theorem dJ2_getChar_3b067_21 : St mJ2_getChar_3b067 21 (.dup) 1 22 := ⟨by decide +kernel, rfl⟩
theorem dJ2_getChar_3b067_22 : St mJ2_getChar_3b067 22 (.ldc 54) 2 24 := ⟨by decide +kernel, rfl⟩
theorem dJ2_getChar_3b067_24 : St mJ2_getChar_3b067 24 (.invokespecial 56) 3 27 := ⟨by decide +kernel, rfl⟩
theorem dJ2_getChar_3b067_27 : St mJ2_getChar_3b067 27 (.athrow) 1 28 := ⟨by decide +kernel, rfl⟩
theorem dJ2_getChar_3b067_28 : St mJ2_getChar_3b067 28 (.iload_n 1) 1 29 := ⟨by decide +kernel, rfl⟩
theorem dJ2_getChar_3b067_29 : St mJ2_getChar_3b067 29 (.iconst 1) 1 30 := ⟨by decide +kernel, rfl⟩
theorem dJ2_getChar_3b067_30 : St mJ2_getChar_3b067 30 (.ishl) 1 31 := ⟨by decide +kernel, rfl⟩
theorem dJ2_getChar_3b067_31 : St mJ2_getChar_3b067 31 (.istore_n 1) 1 32 := ⟨by decide +kernel, rfl⟩
theorem dJ2_getChar_3b067_32 : St mJ2_getChar_3b067 32 (.aload_n 0) 1 33 := ⟨by decide +kernel, rfl⟩
theorem dJ2_getChar_3b067_33 : St mJ2_getChar_3b067 33 (.iload_n 1) 1 34 := ⟨by decide +kernel, rfl⟩
theorem dJ2_getChar_3b067_34 : St mJ2_getChar_3b067 34 (.iinc 1 1) 3 37 := ⟨by decide +kernel, rfl⟩
theorem dJ2_getChar_3b067_37 : St mJ2_getChar_3b067 37 (.baload) 1 38 := ⟨by decide +kernel, rfl⟩
theorem dJ2_getChar_3b067_38 : St mJ2_getChar_3b067 38 (.sipush 255) 3 41 := ⟨by decide +kernel, rfl⟩
theorem dJ2_getChar_3b067_41 : St mJ2_getChar_3b067 41 (.iand) 1 42 := ⟨by decide +kernel, rfl⟩
theorem dJ2_getChar_3b067_42 : St mJ2_getChar_3b067 42 (.getstatic 59) 3 45 := ⟨by decide +kernel, rfl⟩
theorem dJ2_getChar_3b067_45 : St mJ2_getChar_3b067 45 (.ishl) 1 46 := ⟨by decide +kernel, rfl⟩
theorem dJ2_getChar_3b067_46 : St mJ2_getChar_3b067 46 (.aload_n 0) 1 47 := ⟨by decide +kernel, rfl⟩
theorem dJ2_getChar_3b067_47 : St mJ2_getChar_3b067 47 (.iload_n 1) 1 48 := ⟨by decide +kernel, rfl⟩
theorem dJ2_getChar_3b067_48 : St mJ2_getChar_3b067 48 (.baload) 1 49 := ⟨by decide +kernel, rfl⟩
theorem dJ2_getChar_3b067_49 : St mJ2_getChar_3b067 49 (.sipush 255) 3 52 := ⟨by decide +kernel, rfl⟩
theorem dJ2_getChar_3b067_52 : St mJ2_getChar_3b067 52 (.iand) 1 53 := ⟨by decide +kernel, rfl⟩
theorem dJ2_getChar_3b067_53 : St mJ2_getChar_3b067 53 (.getstatic 63) 3 56 := ⟨by decide +kernel, rfl⟩
theorem dJ2_getChar_3b067_56 : St mJ2_getChar_3b067 56 (.ishl) 1 57 := ⟨by decide +kernel, rfl⟩
theorem dJ2_getChar_3b067_57 : St mJ2_getChar_3b067 57 (.ior) 1 58 := ⟨by decide +kernel, rfl⟩
theorem dJ2_getChar_3b067_58 : St mJ2_getChar_3b067 58 (.i2c) 1 59 := ⟨by decide +kernel, rfl⟩
theorem dJ2_getChar_3b067_59 : St mJ2_getChar_3b067 59 (.ireturn) 1 60 := ⟨by decide +kernel, rfl⟩
theorem dJ2_length_9d52b_0 : St mJ2_length_9d52b 0 (.aload_n 0) 1 1 := ⟨by decide +kernel, rfl⟩
theorem dJ2_length_9d52b_1 : St mJ2_length_9d52b 1 (.arraylength) 1 2 := ⟨by decide +kernel, rfl⟩
theorem dJ2_length_9d52b_2 : St mJ2_length_9d52b 2 (.iconst 1) 1 3 := ⟨by decide +kernel, rfl⟩
theorem dJ2_length_9d52b_3 : St mJ2_length_9d52b 3 (.ishr) 1 4 := ⟨by decide +kernel, rfl⟩
theorem dJ2_length_9d52b_4 : St mJ2_length_9d52b 4 (.ireturn) 1 5 := ⟨by decide +kernel, rfl⟩
theorem dJ2_indexOf_4cfef_0 : St mJ2_indexOf_4cfef 0 (.iload_n 2) 1 1 := ⟨by decide +kernel, rfl⟩
theorem dJ2_indexOf_4cfef_1 : St mJ2_indexOf_4cfef 1 (.iconst 0) 1 2 := ⟨by decide +kernel, rfl⟩
theorem dJ2_indexOf_4cfef_2 : St mJ2_indexOf_4cfef 2 (.invokestatic 224) 3 5 := ⟨by decide +kernel, rfl⟩
theorem dJ2_indexOf_4cfef_5 : St mJ2_indexOf_4cfef 5 (.istore_n 2) 1 6 := ⟨by decide +kernel, rfl⟩
theorem dJ2_indexOf_4cfef_6 : St mJ2_indexOf_4cfef 6 (.iload_n 3) 1 7 := ⟨by decide +kernel, rfl⟩
theorem dJ2_indexOf_4cfef_7 : St mJ2_indexOf_4cfef 7 (.aload_n 0) 1 8 := ⟨by decide +kernel, rfl⟩
theorem dJ2_indexOf_4cfef_8 : St mJ2_indexOf_4cfef 8 (.arraylength) 1 9 := ⟨by decide +kernel, rfl⟩
theorem dJ2_indexOf_4cfef_9 : St mJ2_indexOf_4cfef 9 (.iconst 1) 1 10 := ⟨by decide +kernel, rfl⟩
theorem dJ2_indexOf_4cfef_10 : St mJ2_indexOf_4cfef 10 (.ishr) 1 11 := ⟨by decide +kernel, rfl⟩
theorem dJ2_indexOf_4cfef_11 : St mJ2_indexOf_4cfef 11 (.invokestatic 183) 3 14 := ⟨by decide +kernel, rfl⟩
theorem dJ2_indexOf_4cfef_14 : St mJ2_indexOf_4cfef 14 (.istore_n 3) 1 15 := ⟨by decide +kernel, rfl⟩
theorem dJ2_indexOf_4cfef_15 : St mJ2_indexOf_4cfef 15 (.iload_n 2) 1 16 := ⟨by decide +kernel, rfl⟩
theorem dJ2_indexOf_4cfef_16 : St mJ2_indexOf_4cfef 16 (.iload_n 3) 1 17 := ⟨by decide +kernel, rfl⟩
theorem dJ2_indexOf_4cfef_17 : St mJ2_indexOf_4cfef 17 (.if_icmp .lt 5) 3 20 := ⟨by decide +kernel, rfl⟩
theorem dJ2_indexOf_4cfef_20 : St mJ2_indexOf_4cfef 20 (.iconst (-1)) 1 21 := ⟨by decide +kernel, rfl⟩
theorem dJ2_indexOf_4cfef_21 : St mJ2_indexOf_4cfef 21 (.ireturn) 1 22 := ⟨by decide +kernel, rfl⟩
theorem dJ2_indexOf_4cfef_22 : St mJ2_indexOf_4cfef 22 (.iload_n 1) 1 23 := ⟨by decide +kernel, rfl⟩
theorem dJ2_indexOf_4cfef_23 : St mJ2_indexOf_4cfef 23 (.ldc 227) 2 25 := ⟨by decide +kernel, rfl⟩
theorem dJ2_indexOf_4cfef_25 : St mJ2_indexOf_4cfef 25 (.if_icmp .ge 11) 3 28 := ⟨by decide +kernel, rfl⟩
theorem dJ2_indexOf_4cfef_28 : St mJ2_indexOf_4cfef 28 (.aload_n 0) 1 29 := ⟨by decide +kernel, rfl⟩
theorem dJ2_indexOf_4cfef_29 : St mJ2_indexOf_4cfef 29 (.iload_n 1) 1 30 := ⟨by decide +kernel, rfl⟩
theorem dJ2_indexOf_4cfef_30 : St mJ2_indexOf_4cfef 30 (.iload_n 2) 1 31 := ⟨by decide +kernel, rfl⟩
theorem dJ2_indexOf_4cfef_31 : St mJ2_indexOf_4cfef 31 (.iload_n 3) 1 32 := ⟨by decide +kernel, rfl⟩
theorem dJ2_indexOf_4cfef_32 : St mJ2_indexOf_4cfef 32 (.invokestatic 228) 3 35 := ⟨by decide +kernel, rfl⟩
theorem dJ2_indexOf_4cfef_35 : St mJ2_indexOf_4cfef 35 (.ireturn) 1 36 := ⟨by decide +kernel, rfl⟩
theorem dJ2_indexOf_4cfef_36 : St mJ2_indexOf_4cfef 36 (.aload_n 0) 1 37 := ⟨by decide +kernel, rfl⟩
theorem dJ2_indexOf_4cfef_37 : St mJ2_indexOf_4cfef 37 (.iload_n 1) 1 38 := ⟨by decide +kernel, rfl⟩
theorem dJ2_indexOf_4cfef_38 : St mJ2_indexOf_4cfef 38 (.iload_n 2) 1 39 := ⟨by decide +kernel, rfl⟩
theorem dJ2_indexOf_4cfef_39 : St mJ2_indexOf_4cfef 39 (.iload_n 3) 1 40 := ⟨by decide +kernel, rfl⟩
theorem dJ2_indexOf_4cfef_40 : St mJ2_indexOf_4cfef 40 (.invokestatic 232) 3 43 := ⟨by decide +kernel, rfl⟩
theorem dJ2_indexOf_4cfef_43 : St mJ2_indexOf_4cfef 43 (.ireturn) 1 44 := ⟨by decide +kernel, rfl⟩
theorem dJ2_indexOfChar_4cfef_0 : St mJ2_indexOfChar_4cfef 0 (.iload_n 2) 1 1 := ⟨by decide +kernel, rfl⟩
theorem dJ2_indexOfChar_4cfef_1 : St mJ2_indexOfChar_4cfef 1 (.iload_n 3) 1 2 := ⟨by decide +kernel, rfl⟩
theorem dJ2_indexOfChar_4cfef_2 : St mJ2_indexOfChar_4cfef 2 (.aload_n 0) 1 3 := ⟨by decide +kernel, rfl⟩
theorem dJ2_indexOfChar_4cfef_3 : St mJ2_indexOfChar_4cfef 3 (.invokestatic 96) 3 6 := ⟨by decide +kernel, rfl⟩
theorem dJ2_indexOfChar_4cfef_6 : St mJ2_indexOfChar_4cfef 6 (.aload_n 0) 1 7 := ⟨by decide +kernel, rfl⟩
theorem dJ2_indexOfChar_4cfef_7 : St mJ2_indexOfChar_4cfef 7 (.iload_n 1) 1 8 := ⟨by decide +kernel, rfl⟩
theorem dJ2_indexOfChar_4cfef_8 : St mJ2_indexOfChar_4cfef 8 (.iload_n 2) 1 9 := ⟨by decide +kernel, rfl⟩
theorem dJ2_indexOfChar_4cfef_9 : St mJ2_indexOfChar_4cfef 9 (.iload_n 3) 1 10 := ⟨by decide +kernel, rfl⟩
theorem dJ2_indexOfChar_4cfef_10 : St mJ2_indexOfChar_4cfef 10 (.invokestatic 244) 3 13 := ⟨by decide +kernel, rfl⟩
theorem dJ2_indexOfChar_4cfef_13 : St mJ2_indexOfChar_4cfef 13 (.ireturn) 1 14 := ⟨by decide +kernel, rfl⟩
theorem dJ2_indexOfCharUnsafe_4cfef_0 : St mJ2_indexOfCharUnsafe_4cfef 0 (.iload_n 2) 1 1 := ⟨by decide +kernel, rfl⟩
theorem dJ2_indexOfCharUnsafe_4cfef_1 : St mJ2_indexOfCharUnsafe_4cfef 1 (.istore 4) 2 3 := ⟨by decide +kernel, rfl⟩
theorem dJ2_indexOfCharUnsafe_4cfef_3 : St mJ2_indexOfCharUnsafe_4cfef 3 (.iload 4) 2 5 := ⟨by decide +kernel, rfl⟩
theorem dJ2_indexOfCharUnsafe_4cfef_5 : St mJ2_indexOfCharUnsafe_4cfef 5 (.iload_n 3) 1 6 := ⟨by decide +kernel, rfl⟩
theorem dJ2_indexOfCharUnsafe_4cfef_6 : St mJ2_indexOfCharUnsafe_4cfef 6 (.if_icmp .ge 22) 3 9 := ⟨by decide +kernel, rfl⟩
theorem dJ2_indexOfCharUnsafe_4cfef_9 : St mJ2_indexOfCharUnsafe_4cfef 9 (.aload_n 0) 1 10 := ⟨by decide +kernel, rfl⟩
theorem dJ2_indexOfCharUnsafe_4cfef_10 : St mJ2_indexOfCharUnsafe_4cfef 10 (.iload 4) 2 12 := ⟨by decide +kernel, rfl⟩
theorem dJ2_indexOfCharUnsafe_4cfef_12 : St mJ2_indexOfCharUnsafe_4cfef 12 (.invokestatic 71) 3 15 := ⟨by decide +kernel, rfl⟩
theorem dJ2_indexOfCharUnsafe_4cfef_15 : St mJ2_indexOfCharUnsafe_4cfef 15 (.iload_n 1) 1 16 := ⟨by decide +kernel, rfl⟩
theorem dJ2_indexOfCharUnsafe_4cfef_16 : St mJ2_indexOfCharUnsafe_4cfef 16 (.if_icmp .ne 6) 3 19 := ⟨by decide +kernel, rfl⟩
theorem dJ2_indexOfCharUnsafe_4cfef_19 : St mJ2_indexOfCharUnsafe_4cfef 19 (.iload 4) 2 21 := ⟨by decide +kernel, rfl⟩
theorem dJ2_indexOfCharUnsafe_4cfef_21 : St mJ2_indexOfCharUnsafe_4cfef 21 (.ireturn) 1 22 := ⟨by decide +kernel, rfl⟩
theorem dJ2_indexOfCharUnsafe_4cfef_22 : St mJ2_indexOfCharUnsafe_4cfef 22 (.iinc 4 1) 3 25 := ⟨by decide +kernel, rfl⟩
theorem dJ2_indexOfCharUnsafe_4cfef_25 : St mJ2_indexOfCharUnsafe_4cfef 25 (.goto (-22)) 3 28 := ⟨by decide +kernel, rfl⟩
theorem dJ2_indexOfCharUnsafe_4cfef_28 : St mJ2_indexOfCharUnsafe_4cfef 28 (.iconst (-1)) 1 29 := ⟨by decide +kernel, rfl⟩
theorem dJ2_indexOfCharUnsafe_4cfef_29 : St mJ2_indexOfCharUnsafe_4cfef 29 (.ireturn) 1 30 := ⟨by decide +kernel, rfl⟩
theorem dJ2_indexOfSupplementary_4cfef_0 : St mJ2_indexOfSupplementary_4cfef 0 (.iload_n 1) 1 1 := ⟨by decide +kernel, rfl⟩
theorem dJ2_indexOfSupplementary_4cfef_1 : St mJ2_indexOfSupplementary_4cfef 1 (.invokestatic 164) 3 4 := ⟨by decide +kernel, rfl⟩
theorem dJ2_indexOfSupplementary_4cfef_4 : St mJ2_indexOfSupplementary_4cfef 4 (.ifCond .eq 65) 3 7 := ⟨by decide +kernel, rfl⟩
theorem dJ2_indexOfSupplementary_4cfef_7 : St mJ2_indexOfSupplementary_4cfef 7 (.iload_n 1) 1 8 := ⟨by decide +kernel, rfl⟩
theorem dJ2_indexOfSupplementary_4cfef_8 : St mJ2_indexOfSupplementary_4cfef 8 (.invokestatic 157) 3 11 := ⟨by decide +kernel, rfl⟩
theorem dJ2_indexOfSupplementary_4cfef_11 : St mJ2_indexOfSupplementary_4cfef 11 (.istore 4) 2 13 := ⟨by decide +kernel, rfl⟩
theorem dJ2_indexOfSupplementary_4cfef_13 : St mJ2_indexOfSupplementary_4cfef 13 (.iload_n 1) 1 14 := ⟨by decide +kernel, rfl⟩
theorem dJ2_indexOfSupplementary_4cfef_14 : St mJ2_indexOfSupplementary_4cfef 14 (.invokestatic 161) 3 17 := ⟨by decide +kernel, rfl⟩
theorem dJ2_indexOfSupplementary_4cfef_17 : St mJ2_indexOfSupplementary_4cfef 17 (.istore 5) 2 19 := ⟨by decide +kernel, rfl⟩
theorem dJ2_indexOfSupplementary_4cfef_19 : St mJ2_indexOfSupplementary_4cfef 19 (.iload_n 2) 1 20 := ⟨by decide +kernel, rfl⟩
theorem dJ2_indexOfSupplementary_4cfef_20 : St mJ2_indexOfSupplementary_4cfef 20 (.iload_n 3) 1 21 := ⟨by decide +kernel, rfl⟩
theorem dJ2_indexOfSupplementary_4cfef_21 : St mJ2_indexOfSupplementary_4cfef 21 (.aload_n 0) 1 22 := ⟨by decide +kernel, rfl⟩
theorem dJ2_indexOfSupplementary_4cfef_22 : St mJ2_indexOfSupplementary_4cfef 22 (.invokestatic 96) 3 25 := ⟨by decide +kernel, rfl⟩
theorem dJ2_indexOfSupplementary_4cfef_25 : St mJ2_indexOfSupplementary_4cfef 25 (.iload_n 2) 1 26 := ⟨by decide +kernel, rfl⟩
theorem dJ2_indexOfSupplementary_4cfef_26 : St mJ2_indexOfSupplementary_4cfef 26 (.istore 6) 2 28 := ⟨by decide +kernel, rfl⟩
theorem dJ2_indexOfSupplementary_4cfef_28 : St mJ2_indexOfSupplementary_4cfef 28 (.iload 6) 2 30 := ⟨by decide +kernel, rfl⟩
theorem dJ2_indexOfSupplementary_4cfef_30 : St mJ2_indexOfSupplementary_4cfef 30 (.iload_n 3) 1 31 := ⟨by decide +kernel, rfl⟩
theorem dJ2_indexOfSupplementary_4cfef_31 : St mJ2_indexOfSupplementary_4cfef 31 (.iconst 1) 1 32 := ⟨by decide +kernel, rfl⟩
theorem dJ2_indexOfSupplementary_4cfef_32 : St mJ2_indexOfSupplementary_4cfef 32 (.isub) 1 33 := ⟨by decide +kernel, rfl⟩
theorem dJ2_indexOfSupplementary_4cfef_33 : St mJ2_indexOfSupplementary_4cfef 33 (.if_icmp .ge 36) 3 36 := ⟨by decide +kernel, rfl⟩
theorem dJ2_indexOfSupplementary_4cfef_36 : St mJ2_indexOfSupplementary_4cfef 36 (.aload_n 0) 1 37 := ⟨by decide +kernel, rfl⟩
theorem dJ2_indexOfSupplementary_4cfef_37 : St mJ2_indexOfSupplementary_4cfef 37 (.iload 6) 2 39 := ⟨by decide +kernel, rfl⟩
theorem dJ2_indexOfSupplementary_4cfef_39 : St mJ2_indexOfSupplementary_4cfef 39 (.invokestatic 71) 3 42 := ⟨by decide +kernel, rfl⟩
theorem dJ2_indexOfSupplementary_4cfef_42 : St mJ2_indexOfSupplementary_4cfef 42 (.iload 4) 2 44 := ⟨by decide +kernel, rfl⟩
theorem dJ2_indexOfSupplementary_4cfef_44 : St mJ2_indexOfSupplementary_4cfef 44 (.if_icmp .ne 19) 3 47 := ⟨by decide +kernel, rfl⟩
theorem dJ2_indexOfSupplementary_4cfef_47 : St mJ2_indexOfSupplementary_4cfef 47 (.aload_n 0) 1 48 := ⟨by decide +kernel, rfl⟩
theorem dJ2_indexOfSupplementary_4cfef_48 : St mJ2_indexOfSupplementary_4cfef 48 (.iload 6) 2 50 := ⟨by decide +kernel, rfl⟩
theorem dJ2_indexOfSupplementary_4cfef_50 : St mJ2_indexOfSupplementary_4cfef 50 (.iconst 1) 1 51 := ⟨by decide +kernel, rfl⟩
theorem dJ2_indexOfSupplementary_4cfef_51 : St mJ2_indexOfSupplementary_4cfef 51 (.iadd) 1 52 := ⟨by decide +kernel, rfl⟩
theorem dJ2_indexOfSupplementary_4cfef_52 : St mJ2_indexOfSupplementary_4cfef 52 (.invokestatic 71) 3 55 := ⟨by decide +kernel, rfl⟩
theorem dJ2_indexOfSupplementary_4cfef_55 : St mJ2_indexOfSupplementary_4cfef 55 (.iload 5) 2 57 := ⟨by decide +kernel, rfl⟩
theorem dJ2_indexOfSupplementary_4cfef_57 : St mJ2_indexOfSupplementary_4cfef 57 (.if_icmp .ne 6) 3 60 := ⟨by decide +kernel, rfl⟩
theorem dJ2_indexOfSupplementary_4cfef_60 : St mJ2_indexOfSupplementary_4cfef 60 (.iload 6) 2 62 := ⟨by decide +kernel, rfl⟩
theorem dJ2_indexOfSupplementary_4cfef_62 : St mJ2_indexOfSupplementary_4cfef 62 (.ireturn) 1 63 := ⟨by decide +kernel, rfl⟩
theorem dJ2_indexOfSupplementary_4cfef_63 : St mJ2_indexOfSupplementary_4cfef 63 (.iinc 6 1) 3 66 := ⟨by decide +kernel, rfl⟩
theorem dJ2_indexOfSupplementary_4cfef_66 : St mJ2_indexOfSupplementary_4cfef 66 (.goto (-38)) 3 69 := ⟨by decide +kernel, rfl⟩
theorem dJ2_indexOfSupplementary_4cfef_69 : St mJ2_indexOfSupplementary_4cfef 69 (.iconst (-1)) 1 70 := ⟨by decide +kernel, rfl⟩
theorem dJ2_indexOfSupplementary_4cfef_70 : St mJ2_indexOfSupplementary_4cfef 70 (.ireturn) 1 71 := ⟨by decide +kernel, rfl⟩
theorem dJ2_checkBoundsBeginEnd_d044e_0 : St mJ2_checkBoundsBeginEnd_d044e 0 (.iload_n 0) 1 1 := ⟨by decide +kernel, rfl⟩
theorem dJ2_checkBoundsBeginEnd_d044e_1 : St mJ2_checkBoundsBeginEnd_d044e 1 (.iload_n 1) 1 2 := ⟨by decide +kernel, rfl⟩
theorem dJ2_checkBoundsBeginEnd_d044e_2 : St mJ2_checkBoundsBeginEnd_d044e 2 (.aload_n 2) 1 3 := ⟨by decide +kernel, rfl⟩
theorem dJ2_checkBoundsBeginEnd_d044e_3 : St mJ2_checkBoundsBeginEnd_d044e 3 (.invokestatic 48) 3 6 := ⟨by decide +kernel, rfl⟩
theorem dJ2_checkBoundsBeginEnd_d044e_6 : St mJ2_checkBoundsBeginEnd_d044e 6 (.invokestatic 241) 3 9 := ⟨by decide +kernel, rfl⟩
theorem dJ2_checkBoundsBeginEnd_d044e_9 : St mJ2_checkBoundsBeginEnd_d044e 9 (.return_) 1 10 := ⟨by decide +kernel, rfl⟩
theorem dJ3_checkFromToIndex_8c36e_0 : St mJ3_checkFromToIndex_8c36e 0 (.iload_n 0) 1 1 := ⟨by decide +kernel, rfl⟩
theorem dJ3_checkFromToIndex_8c36e_1 : St mJ3_checkFromToIndex_8c36e 1 (.ifCond .lt 13) 3 4 := ⟨by decide +kernel, rfl⟩
theorem dJ3_checkFromToIndex_8c36e_4 : St mJ3_checkFromToIndex_8c36e 4 (.iload_n 0) 1 5 := ⟨by decide +kernel, rfl⟩
theorem dJ3_checkFromToIndex_8c36e_5 : St mJ3_checkFromToIndex_8c36e 5 (.iload_n 1) 1 6 := ⟨by decide +kernel, rfl⟩
theorem dJ3_checkFromToIndex_8c36e_6 : St mJ3_checkFromToIndex_8c36e 6 (.if_icmp .gt 8) 3 9 := ⟨by decide +kernel, rfl⟩
theorem dJ3_checkFromToIndex_8c36e_9 : St mJ3_checkFromToIndex_8c36e 9 (.iload_n 1) 1 10 := ⟨by decide +kernel, rfl⟩
theorem dJ3_checkFromToIndex_8c36e_10 : St mJ3_checkFromToIndex_8c36e 10 (.iload_n 2) 1 11 := ⟨by decide +kernel, rfl⟩
theorem dJ3_checkFromToIndex_8c36e_11 : St mJ3_checkFromToIndex_8c36e 11 (.if_icmp .le 11) 3 14 := ⟨by decide +kernel, rfl⟩
theorem dJ3_checkFromToIndex_8c36e_14 : St mJ3_checkFromToIndex_8c36e 14 (.aload_n 3) 1 15 := ⟨by decide +kernel, rfl⟩
theorem dJ3_checkFromToIndex_8c36e_15 : St mJ3_checkFromToIndex_8c36e 15 (.iload_n 0) 1 16 := ⟨by decide +kernel, rfl⟩
theorem dJ3_checkFromToIndex_8c36e_16 : St mJ3_checkFromToIndex_8c36e 16 (.iload_n 1) 1 17 := ⟨by decide +kernel, rfl⟩
theorem dJ3_checkFromToIndex_8c36e_17 : St mJ3_checkFromToIndex_8c36e 17 (.iload_n 2) 1 18 := ⟨by decide +kernel, rfl⟩
theorem dJ3_checkFromToIndex_8c36e_18 : St mJ3_checkFromToIndex_8c36e 18 (.invokestatic 99) 3 21 := ⟨by decide +kernel, rfl⟩
theorem dJ3_checkFromToIndex_8c36e_21 : St mJ3_checkFromToIndex_8c36e 21 (.athrow) 1 22 := ⟨by decide +kernel, rfl⟩
theorem dJ3_checkFromToIndex_8c36e_22 : St mJ3_checkFromToIndex_8c36e 22 (.iload_n 0) 1 23 := ⟨by decide +kernel, rfl⟩
theorem dJ3_checkFromToIndex_8c36e_23 : St mJ3_checkFromToIndex_8c36e 23 (.ireturn) 1 24 := ⟨by decide +kernel, rfl⟩
end
section
/-! more links: Math, arraycopy, Object -/
theorem in_math : Cond.initialized "java/lang/Math" ∈ TB := TB_mem 28 (by decide +kernel) (by decide +kernel)
theorem in_sys : Cond.initialized "java/lang/System" ∈ TB := TB_mem 34 (by decide +kernel) (by decide +kernel)
theorem kX6_1 : Cond.methodLink RX6 1 objectInit ∈ TB := TB_mem 41 (by decide +kernel) (by decide +kernel)
theorem im_obj : Cond.instanceMethod objectInit ∈ TB := TB_mem 42 (by decide +kernel) (by decide +kernel)
theorem co_obj : Cond.code objectInit ⟨#[0xb1]⟩ 1 none ∈ TB := TB_mem 43 (by decide +kernel) (by decide +kernel)
theorem kX4_3 : Cond.methodLink RX4 3 objectInit ∈ TB := TB_mem 49 (by decide +kernel) (by decide +kernel)
theorem kX3_3 : Cond.methodLink RX3 3 objectInit ∈ TB := TB_mem 55 (by decide +kernel) (by decide +kernel)
theorem kX1_3 : Cond.methodLink RX1 3 objectInit ∈ TB := TB_mem 94 (by decide +kernel) (by decide +kernel)
theorem kX0_3 : Cond.methodLink RX0 3 objectInit ∈ TB := TB_mem 145 (by decide +kernel) (by decide +kernel)
theorem kX5_3 : Cond.methodLink RX5 3 objectInit ∈ TB := TB_mem 167 (by decide +kernel) (by decide +kernel)
theorem kX2_3 : Cond.methodLink RX2 3 objectInit ∈ TB := TB_mem 206 (by decide +kernel) (by decide +kernel)
theorem kX4_96 : Cond.methodLink RX4 96 Lib.Math.min.name ∈ TB := TB_mem 277 (by decide +kernel) (by decide +kernel)
theorem st_min : Cond.static Lib.Math.min.name ∈ TB := TB_mem 278 (by decide +kernel) (by decide +kernel)
theorem co_mmin : Cond.code Lib.Math.min.name Lib.Math.min.code 2 (some .int) ∈ TB := TB_mem 279 (by decide +kernel) (by decide +kernel)
theorem kX3_37 : Cond.methodLink RX3 37 Lib.Math.max.name ∈ TB := TB_mem 307 (by decide +kernel) (by decide +kernel)
theorem st_max : Cond.static Lib.Math.max.name ∈ TB := TB_mem 308 (by decide +kernel) (by decide +kernel)
theorem co_mmax : Cond.code Lib.Math.max.name Lib.Math.max.code 2 (some .int) ∈ TB := TB_mem 309 (by decide +kernel) (by decide +kernel)
theorem kJ1_92 : Cond.methodLink RJ1 92 Lib.Math.max.name ∈ TB := TB_mem 388 (by decide +kernel) (by decide +kernel)
theorem kJ1_38 : Cond.methodLink RJ1 38 Lib.Math.min.name ∈ TB := TB_mem 389 (by decide +kernel) (by decide +kernel)
theorem kJ2_224 : Cond.methodLink RJ2 224 Lib.Math.max.name ∈ TB := TB_mem 396 (by decide +kernel) (by decide +kernel)
theorem kJ2_183 : Cond.methodLink RJ2 183 Lib.Math.min.name ∈ TB := TB_mem 397 (by decide +kernel) (by decide +kernel)
theorem kX3_31 : Cond.methodLink RX3 31 arraycopyName ∈ TB := TB_mem 489 (by decide +kernel) (by decide +kernel)
theorem st_cp : Cond.static arraycopyName ∈ TB := TB_mem 490 (by decide +kernel) (by decide +kernel)
theorem nt_cp : Cond.native arraycopyName ∈ TB := TB_mem 491 (by decide +kernel) (by decide +kernel)
theorem kX6_257 : Cond.methodLink RX6 257 Lib.Math.min.name ∈ TB := TB_mem 504 (by decide +kernel) (by decide +kernel)
theorem kX6_262 : Cond.methodLink RX6 262 Lib.Math.max.name ∈ TB := TB_mem 505 (by decide +kernel) (by decide +kernel)
theorem kX0_68 : Cond.methodLink RX0 68 arraycopyName ∈ TB := TB_mem 607 (by decide +kernel) (by decide +kernel)
theorem kX4_42 : Cond.methodLink RX4 42 arraycopyName ∈ TB := TB_mem 678 (by decide +kernel) (by decide +kernel)
theorem kX6_251 : Cond.methodLink RX6 251 arraycopyName ∈ TB := TB_mem 747 (by decide +kernel) (by decide +kernel)
theorem kX7_1 : Cond.methodLink RX7 1 objectInit ∈ TB := TB_mem 753 (by decide +kernel) (by decide +kernel)
end
section
/-! THE JUDGEMENT: one world for the whole run, its cells at the addresses ka; contracts in the form 'what must hold behind it' -/
abbrev KX : Type := Launch × va_G × Nat × Heap × (Nat → ClassId) × Nat × Nat × (Nat → Nat)
def kD (κ : KX) : va_G := κ.2.1
def kb (κ : KX) : Nat := κ.2.2.1
def kH (κ : KX) : Heap := κ.2.2.2.1
def kc (κ : KX) : Nat → ClassId := κ.2.2.2.2.1
def ksK (κ : KX) : Nat := κ.2.2.2.2.2.1
def ksV (κ : KX) : Nat := κ.2.2.2.2.2.2.1
def ka (κ : KX) : Nat → Nat := κ.2.2.2.2.2.2.2
def kA (κ : KX) : Nat → Prop := fun q => kb κ ≤ q
/-- the class number of the arrays: 0 int, 1 char, 2 long, 3 of Standing, 4 of Sheet -/
def ktys (κ : KX) : List (ClassId × FieldType) := [(kc κ 0, .int), (kc κ 1, .char), (kc κ 2, .long), (kc κ 3, .object RX3), (kc κ 4, .object RX2)]
/-- what is known of the tables, and of what lay in the heap at first -/
def KN (κ : KX) (U : State) : Prop :=
  va_K (kD κ) vwCl (ktys κ) U ∧ (∀ w ∈ NW, va_Nw w U) ∧ vk_R RX5 66 "psmda" (ksK κ) U ∧ vk_S 1 [5] [[112, 115, 109, 100, 97]] (fun _ => ksK κ) (fun _ => ksV κ) (kA κ) U (kH κ) ∧ va_Z "java/lang/String" "COMPACT_STRINGS" "Z" (.int 1) (kA κ) U (kH κ) ∧ va_AO RX3 U ∧ va_AO RX2 U
theorem nest_shape {w : Cond} (h : w ∈ NW) : ∃ a i x b, w = .methodLinkNest a i x b := by
  have h2 := (List.mem_filter.mp h).2
  cases w <;> first | exact ⟨_, _, _, _, rfl⟩ | (exact absurd h2 (by simp [isNest]))
theorem KN.moved {κ : KX} {s U : State} (hW : s.WarmedH U.vm) (h : KN κ s) : KN κ U := by
  obtain ⟨h1, h2, h3, h4, h5, h6, h7⟩ := h
  refine ⟨va_K.moved hW.alike h1, fun w hw => ?_, vk_R.warm hW h3, vk_S.moved hW.alike h4, va_Z.moved hW.alike h5, va_AO.moved hW.alike h6, va_AO.moved hW.alike h7⟩
  obtain ⟨a, i, x, b, rfl⟩ := nest_shape hw
  exact va_Nw.warmM hW (h2 _ hw)
theorem KN.same {κ : KX} {s U : State} (hv : U.vm = s.vm) (h : KN κ s) : KN κ U := by
  obtain ⟨h1, h2, h3, h4, h5, h6, h7⟩ := h
  have ha : s.vm.Alike U.vm := by rw [hv]; exact Vm.Alike.refl _
  refine ⟨va_K.moved ha h1, fun w hw => ?_, vk_R.same hv h3, vk_S.moved ha h4, va_Z.moved ha h5, va_AO.moved ha h6, va_AO.moved ha h7⟩
  obtain ⟨a, i, x, b, rfl⟩ := nest_shape hw
  exact va_Nw.same rfl hv.symm (h2 _ hw)
/-- the heap holds the world w; below the base all is as at first -/
def HW (κ : KX) (w : va_W) (H : Heap) : Prop := va_P (kD κ) vwCl w H ∧ va_D (kA κ) w ∧ kb κ ≤ H.size ∧ ∀ q, q < kb κ → H[q]? = (kH κ)[q]?
/-- a method's room: how deep (frames and locals), cells, slots -/
abbrev RM : Type := Nat × Nat × Nat
def rm_of (r : RM) : Room := { frames := r.1, cells := r.2.1, slots := r.2.2, locals := 37 * r.1 }
def Cx (κ : KX) (r : RM) (y : MD) (p : Program) (R : Room) (s : State) (m : MethodId) (args : Array Value) (meth : Method) (c : Code) : Prop :=
  p.tables.exec = Jvm.exec ∧ c.code = y.2.1 ∧ c.maxLocals = y.2.2.1 ∧ s.vm.findClass y.1.cls = some m.cls ∧ (∀ w ∈ TB, w.before args s = true) ∧ (r.1 ≤ R.frames ∧ 37 * r.1 ≤ R.locals ∧ R.cells = r.2.1 ∧ R.slots = r.2.2) ∧ meth.sig.returnType = y.2.2.2 ∧ meth.locks = false ∧ meth.name = y.1.name ∧ KN κ s ∧ kb κ ≤ s.heap.size ∧ (∀ q, q < kb κ → s.heap[q]? = (kH κ)[q]?)
def QW (κ : KX) (Q : Option Value → va_W → Prop) : Array Value → State → Outcome → State → Prop := fun _ st o t => (∃ (v : Option Value) (w : va_W), o = .returned v ∧ Q v w ∧ HW κ w t.heap) ∧ va_F (kA κ) st t
/-- the locals by their numbers: what is known of each -/
def lvA (L : List (Option Value)) : List (Nat × Value) := (List.range L.length).filterMap fun j => (L.getD j none).map fun v => (j, v)
def lvL (ls : Array Slot) (nL : Nat) (L : List (Option Value)) : Prop := lv_has ls nL (lvA L)
theorem lvA_mem {L : List (Option Value)} {i : Nat} {v : Value} (h : L[i]? = some (some v)) : (i, v) ∈ lvA L := by
  have hl := (List.getElem?_eq_some_iff.mp h).1
  refine List.mem_filterMap.mpr ⟨i, List.mem_range.mpr hl, ?_⟩
  simp [List.getD_eq_getElem?_getD, h]
theorem lvA_of {L : List (Option Value)} {q : Nat × Value} (h : q ∈ lvA L) : L[q.1]? = some (some q.2) := by
  obtain ⟨j, hj, h2⟩ := List.mem_filterMap.mp h
  have hl := List.mem_range.mp hj
  cases hx : L.getD j none with
  | none => rw [hx] at h2; cases h2
  | some v =>
    rw [hx] at h2
    cases h2
    rw [List.getD_eq_getElem?_getD, List.getElem?_eq_getElem hl] at hx
    rw [List.getElem?_eq_getElem hl]
    simpa using hx
theorem lvL_at {ls : Array Slot} {nL : Nat} {L : List (Option Value)} (h : lvL ls nL L) {i : Nat} {v : Value} (hi : L[i]? = some (some v)) : ls[i]? = some (.val v) := h.2.2 (i, v) (lvA_mem hi)
theorem lvL_set {ls : Array Slot} {nL i : Nat} {v : Value} {L : List (Option Value)} (h : lv_has ls nL ((i, v) :: (lvA L).filter (fun q => !(q.1 == i) && !(q.1 + 1 == i && q.2.category == 2)))) (hc : ∀ u, 0 < i → L[i - 1]? = some (some u) → u.category = 1) (hi : i < L.length) : lvL ls nL (L.set i (some v)) := by
  refine ⟨h.1, h.2.1, fun q hq => ?_⟩
  have h1 := lvA_of hq
  by_cases hqi : q.1 = i
  · rw [hqi, List.getElem?_set_self hi] at h1
    have h2 : q.2 = v := (Option.some.inj (Option.some.inj h1)).symm
    have h3 := h.2.2 (i, v) List.mem_cons_self
    rw [hqi, h2]
    exact h3
  · rw [List.getElem?_set_ne (fun z => hqi z.symm)] at h1
    refine h.2.2 q (List.mem_cons_of_mem _ (List.mem_filter.mpr ⟨lvA_mem h1, ?_⟩))
    by_cases hq1 : q.1 + 1 = i
    · have h2 := hc q.2 (by omega) (by rw [← hq1]; exact h1)
      simp [hqi, h2]
    · simp [hqi, hq1]
theorem lvL_none {ls : Array Slot} {nL i : Nat} {L : List (Option Value)} (h : lvL ls nL L) : lvL ls nL (L.set i none) := by
  refine ⟨h.1, h.2.1, fun q hq => ?_⟩
  have h1 := lvA_of hq
  by_cases hqi : q.1 = i
  · rw [hqi] at h1
    by_cases hi : i < L.length
    · rw [List.getElem?_set_self hi] at h1
      cases h1
    · rw [List.getElem?_eq_none (by simp; omega)] at h1
      cases h1
  · rw [List.getElem?_set_ne (fun z => hqi z.symm)] at h1
    exact h.2.2 q (lvA_mem h1)
def lcat : Option Value → Bool
  | some v => v.category == 1
  | none => true
theorem lcat_of {o : Option Value} (h : lcat o = true) {u : Value} (hu : o = some u) : u.category = 1 := by
  subst hu
  simpa [lcat] using h
/-- the locals at a method's entry -/
def lvE : List Value → List (Option Value)
  | [] => []
  | v :: l => if v.category = 2 then some v :: none :: lvE l else some v :: lvE l
theorem lvE_args : ∀ (vs : List Value) (i : Nat) (L0 : List (Option Value)) (q : Nat × Value), (L0 ++ lvE vs)[q.1]? = some (some q.2) → L0.length = i → i ≤ q.1 → q ∈ lv_args i vs
  | [], i, L0, q, h, hl, hi => by
    rw [lvE, List.append_nil, List.getElem?_eq_none (by omega)] at h
    cases h
  | v :: vs, i, L0, q, h, hl, hi => by
    by_cases hc : v.category = 2
    · have e : L0 ++ lvE (v :: vs) = (L0 ++ [some v, none]) ++ lvE vs := by simp [lvE, hc]
      simp only [lv_args, hc, if_true]
      rcases Nat.lt_or_ge q.1 (i + 2) with hq | hq
      · rcases (by omega : q.1 = i ∨ q.1 = i + 1) with hz | hz
        · rw [e, List.append_assoc, List.getElem?_append_right (by omega), hz, hl, Nat.sub_self] at h
          simp at h
          refine List.mem_cons.mpr (Or.inl ?_)
          rw [← hz, h]
        · rw [e, List.append_assoc, List.getElem?_append_right (by omega), hz, hl, Nat.add_sub_cancel_left] at h
          simp at h
      · rw [e] at h
        exact List.mem_cons_of_mem _ (lvE_args vs (i + 2) (L0 ++ [some v, none]) q h (by simp [hl]) hq)
    · have e : L0 ++ lvE (v :: vs) = (L0 ++ [some v]) ++ lvE vs := by simp [lvE, hc]
      simp only [lv_args, hc, if_false]
      rcases Nat.lt_or_ge q.1 (i + 1) with hq | hq
      · have hz : q.1 = i := by omega
        rw [e, List.append_assoc, List.getElem?_append_right (by omega), hz, hl, Nat.sub_self] at h
        simp at h
        refine List.mem_cons.mpr (Or.inl ?_)
        rw [← hz, h]
      · rw [e] at h
        exact List.mem_cons_of_mem _ (lvE_args vs (i + 1) (L0 ++ [some v]) q h (by simp [hl]) hq)
def WP (κ : KX) (r : RM) (y : MD) (pc : Nat) (L : List (Option Value)) (st : List Value) (w : va_W) (ct : Nat × Nat) (Q : Option Value → va_W → Prop) : Prop :=
  ∀ (p : Program) (e : Env) (R : Room) (s : State) (m : MethodId) (args : Array Value) (below : List Frame) (meth : Method) (c : Code) (H : Heap) (locs : List Loc) (ls : Array Slot),
    Cx κ r y p R s m args meth c → lvL ls y.2.2.1 L → HW κ w H → va_S (kA κ) s.heap H locs →
    W p κ.1 e R s m args below meth c H locs ct.1 ct.2 (MQ below (QW κ Q) args s r.2.1 r.2.2 (kA κ)) (F0 m pc ls st)
def PU (κ : KX) (w : va_W) : State → Prop := fun U => HW κ w U.heap ∧ KN κ U
/-- a method's contract: from the world w with the arguments as, y comes back with Q -/
def CT (κ : KX) (r : RM) (y : MD) (as : List Value) (w : va_W) (Q : Option Value → va_W → Prop) : Prop :=
  Met κ.1 y.1 (Cond.code y.1 y.2.1 y.2.2.1 y.2.2.2 :: TB) (rm_of r) (va_Pc as (PU κ w)) (QW κ Q) r.2.1 r.2.2 (kA κ)
theorem PU.blind {κ : KX} {w : va_W} {as : List Value} : FrameBlind (va_Pc as (PU κ w)) := fun a U g mk h => ⟨h.1, h.2.1, KN.same (s := U) rfl h.2.2⟩
theorem CT.of {κ : KX} {r : RM} {y : MD} {as : List Value} {w : va_W} {Q : Option Value → va_W → Prop} {na : Nat} (ok : cOK y na) (L : List (Option Value)) (hn : (lg_sl as).length ≤ y.2.2.1) (hL : lvE as ++ List.replicate (y.2.2.1 - (lvE as).length) none = L) (h : WP κ r y 0 L [] w (0, 0) Q) : CT κ r y as w Q := by
  refine Met.ofW (cc := y.2.1) (maxL := y.2.2.1) (ret := y.2.2.2) ok.2.2.2.2.2 rfl ?_
  intro p e s m args below meth c s₁ B hml hv
  obtain ⟨rfl, hH, hK⟩ := hv
  have hts := atoms_spec (ws := Cond.code y.1 y.2.1 y.2.2.1 y.2.2.2 :: TB) B.pre
  have hl := lv_entry as (n := y.2.2.1) hn
  rw [lg_entry_eq]
  refine h p e _ s m _ below meth c s.heap [] _ ⟨B.exec, B.bytes, hml, findClass_of_methodNamed B.named, fun w hw => hts w (List.mem_cons_of_mem _ hw), ⟨Nat.le_refl _, Nat.le_refl _, rfl, rfl⟩, B.returns, B.notSynchronized, (name_of_methodNamed B.named B.method).1, hK, hH.2.2.1, hH.2.2.2⟩ ⟨hl.1, hl.2.1, fun q hq => hl.2.2 q ?_⟩ hH va_S.rf
  have h1 := lvA_of hq
  rw [← hL] at h1
  have h2 : (lvE as)[q.1]? = some (some q.2) := by
    by_cases hx : q.1 < (lvE as).length
    · rw [List.getElem?_append_left hx] at h1
      exact h1
    · rw [List.getElem?_append_right (by omega)] at h1
      have := List.eq_of_mem_replicate (List.mem_of_getElem? h1)
      cases this
  exact lvE_args as 0 [] q (by simpa using h2) rfl (Nat.zero_le _)
section WPR
variable {κ : KX} {r : RM} {y : MD} {pc n : Nat} {L : List (Option Value)} {st : List Value} {w : va_W} {ct : Nat × Nat} {Q : Option Value → va_W → Prop}
theorem wp_iconst {i : Int} {v : Int32} (d : St y pc (.iconst i) 1 n) (hv : Int32.ofInt i = v) (k : WP κ r y n L (.int v :: st) w ct Q) : WP κ r y pc L (st) w ct Q := by
  obtain ⟨hd, rfl⟩ := d
  intro p e R s m args below meth c H locs ls C hl hH hS
  exact lv_iconst C.1 C.2.1 hd hv (k p e R s m args below meth c H locs ls C hl hH hS)
theorem wp_bipush {i : Int} {v : Int32} (d : St y pc (.bipush i) 2 n) (hv : (Int8.ofInt i).toInt32 = v) (k : WP κ r y n L (.int v :: st) w ct Q) : WP κ r y pc L (st) w ct Q := by
  obtain ⟨hd, rfl⟩ := d
  intro p e R s m args below meth c H locs ls C hl hH hS
  exact lv_bipush C.1 C.2.1 hd hv (k p e R s m args below meth c H locs ls C hl hH hS)
theorem wp_sipush {i : Int} {v : Int32} (d : St y pc (.sipush i) 3 n) (hv : (Int16.ofInt i).toInt32 = v) (k : WP κ r y n L (.int v :: st) w ct Q) : WP κ r y pc L (st) w ct Q := by
  obtain ⟨hd, rfl⟩ := d
  intro p e R s m args below meth c H locs ls C hl hH hS
  exact lv_sipush C.1 C.2.1 hd hv (k p e R s m args below meth c H locs ls C hl hH hS)
theorem wp_lconst {i : Fin 2} {v : Int64} (d : St y pc (.lconst i) 1 n) (hv : Int64.ofNat (i : Nat) = v) (k : WP κ r y n L (.long v :: st) w ct Q) : WP κ r y pc L (st) w ct Q := by
  obtain ⟨hd, rfl⟩ := d
  intro p e R s m args below meth c H locs ls C hl hH hS
  exact lv_lconst C.1 C.2.1 hd hv (k p e R s m args below meth c H locs ls C hl hH hS)
theorem wp_iadd {x z : Int32} (d : St y pc (.iadd) 1 n) (k : WP κ r y n L (.int (x + z) :: st) w ct Q) : WP κ r y pc L (.int z :: .int x :: st) w ct Q := by
  obtain ⟨hd, rfl⟩ := d
  intro p e R s m args below meth c H locs ls C hl hH hS
  exact lv_iadd C.1 C.2.1 hd (k p e R s m args below meth c H locs ls C hl hH hS)
theorem wp_isub {x z : Int32} (d : St y pc (.isub) 1 n) (k : WP κ r y n L (.int (x - z) :: st) w ct Q) : WP κ r y pc L (.int z :: .int x :: st) w ct Q := by
  obtain ⟨hd, rfl⟩ := d
  intro p e R s m args below meth c H locs ls C hl hH hS
  exact lv_isub C.1 C.2.1 hd (k p e R s m args below meth c H locs ls C hl hH hS)
theorem wp_imul {x z : Int32} (d : St y pc (.imul) 1 n) (k : WP κ r y n L (.int (x * z) :: st) w ct Q) : WP κ r y pc L (.int z :: .int x :: st) w ct Q := by
  obtain ⟨hd, rfl⟩ := d
  intro p e R s m args below meth c H locs ls C hl hH hS
  exact lv_imul C.1 C.2.1 hd (k p e R s m args below meth c H locs ls C hl hH hS)
theorem wp_iand {x z : Int32} (d : St y pc (.iand) 1 n) (k : WP κ r y n L (.int (x &&& z) :: st) w ct Q) : WP κ r y pc L (.int z :: .int x :: st) w ct Q := by
  obtain ⟨hd, rfl⟩ := d
  intro p e R s m args below meth c H locs ls C hl hH hS
  exact lv_iand C.1 C.2.1 hd (k p e R s m args below meth c H locs ls C hl hH hS)
theorem wp_ior {x z : Int32} (d : St y pc (.ior) 1 n) (k : WP κ r y n L (.int (x ||| z) :: st) w ct Q) : WP κ r y pc L (.int z :: .int x :: st) w ct Q := by
  obtain ⟨hd, rfl⟩ := d
  intro p e R s m args below meth c H locs ls C hl hH hS
  exact lv_ior C.1 C.2.1 hd (k p e R s m args below meth c H locs ls C hl hH hS)
theorem wp_ixor {x z : Int32} (d : St y pc (.ixor) 1 n) (k : WP κ r y n L (.int (x ^^^ z) :: st) w ct Q) : WP κ r y pc L (.int z :: .int x :: st) w ct Q := by
  obtain ⟨hd, rfl⟩ := d
  intro p e R s m args below meth c H locs ls C hl hH hS
  exact lv_ixor C.1 C.2.1 hd (k p e R s m args below meth c H locs ls C hl hH hS)
theorem wp_ishl {x z : Int32} (d : St y pc (.ishl) 1 n) (k : WP κ r y n L (.int (x <<< (z &&& 31)) :: st) w ct Q) : WP κ r y pc L (.int z :: .int x :: st) w ct Q := by
  obtain ⟨hd, rfl⟩ := d
  intro p e R s m args below meth c H locs ls C hl hH hS
  exact lv_ishl C.1 C.2.1 hd (k p e R s m args below meth c H locs ls C hl hH hS)
theorem wp_ishr {x z : Int32} (d : St y pc (.ishr) 1 n) (k : WP κ r y n L (.int (x >>> (z &&& 31)) :: st) w ct Q) : WP κ r y pc L (.int z :: .int x :: st) w ct Q := by
  obtain ⟨hd, rfl⟩ := d
  intro p e R s m args below meth c H locs ls C hl hH hS
  exact lv_ishr C.1 C.2.1 hd (k p e R s m args below meth c H locs ls C hl hH hS)
theorem wp_idiv {x z : Int32} (d : St y pc (.idiv) 1 n) (hne : ¬ z = 0) (k : WP κ r y n L (.int (x / z) :: st) w ct Q) : WP κ r y pc L (.int z :: .int x :: st) w ct Q := by
  obtain ⟨hd, rfl⟩ := d
  intro p e R s m args below meth c H locs ls C hl hH hS
  exact lv_idiv C.1 C.2.1 hd hne (k p e R s m args below meth c H locs ls C hl hH hS)
theorem wp_irem {x z : Int32} (d : St y pc (.irem) 1 n) (hne : ¬ z = 0) (k : WP κ r y n L (.int (x - x / z * z) :: st) w ct Q) : WP κ r y pc L (.int z :: .int x :: st) w ct Q := by
  obtain ⟨hd, rfl⟩ := d
  intro p e R s m args below meth c H locs ls C hl hH hS
  exact lv_irem C.1 C.2.1 hd hne (k p e R s m args below meth c H locs ls C hl hH hS)
theorem wp_ineg {x : Int32} (d : St y pc (.ineg) 1 n) (k : WP κ r y n L (.int (-x) :: st) w ct Q) : WP κ r y pc L (.int x :: st) w ct Q := by
  obtain ⟨hd, rfl⟩ := d
  intro p e R s m args below meth c H locs ls C hl hH hS
  exact lv_ineg C.1 C.2.1 hd (k p e R s m args below meth c H locs ls C hl hH hS)
theorem wp_ladd {x z : Int64} (d : St y pc (.ladd) 1 n) (k : WP κ r y n L (.long (x + z) :: st) w ct Q) : WP κ r y pc L (.long z :: .long x :: st) w ct Q := by
  obtain ⟨hd, rfl⟩ := d
  intro p e R s m args below meth c H locs ls C hl hH hS
  exact lv_ladd C.1 C.2.1 hd (k p e R s m args below meth c H locs ls C hl hH hS)
theorem wp_lmul {x z : Int64} (d : St y pc (.lmul) 1 n) (k : WP κ r y n L (.long (x * z) :: st) w ct Q) : WP κ r y pc L (.long z :: .long x :: st) w ct Q := by
  obtain ⟨hd, rfl⟩ := d
  intro p e R s m args below meth c H locs ls C hl hH hS
  exact lv_lmul C.1 C.2.1 hd (k p e R s m args below meth c H locs ls C hl hH hS)
theorem wp_land {x z : Int64} (d : St y pc (.land) 1 n) (k : WP κ r y n L (.long (x &&& z) :: st) w ct Q) : WP κ r y pc L (.long z :: .long x :: st) w ct Q := by
  obtain ⟨hd, rfl⟩ := d
  intro p e R s m args below meth c H locs ls C hl hH hS
  exact lv_land C.1 C.2.1 hd (k p e R s m args below meth c H locs ls C hl hH hS)
theorem wp_lor {x z : Int64} (d : St y pc (.lor) 1 n) (k : WP κ r y n L (.long (x ||| z) :: st) w ct Q) : WP κ r y pc L (.long z :: .long x :: st) w ct Q := by
  obtain ⟨hd, rfl⟩ := d
  intro p e R s m args below meth c H locs ls C hl hH hS
  exact lv_lor C.1 C.2.1 hd (k p e R s m args below meth c H locs ls C hl hH hS)
theorem wp_lrem {x z : Int64} (d : St y pc (.lrem) 1 n) (hne : ¬ z = 0) (k : WP κ r y n L (.long (x - x / z * z) :: st) w ct Q) : WP κ r y pc L (.long z :: .long x :: st) w ct Q := by
  obtain ⟨hd, rfl⟩ := d
  intro p e R s m args below meth c H locs ls C hl hH hS
  exact lv_lrem C.1 C.2.1 hd hne (k p e R s m args below meth c H locs ls C hl hH hS)
theorem wp_iushr {x z : Int32} (d : St y pc (.iushr) 1 n) (k : WP κ r y n L (.int (x.toUInt32 >>> (z.toUInt32 &&& Int32.toUInt32 31)).toInt32 :: st) w ct Q) : WP κ r y pc L (.int z :: .int x :: st) w ct Q := by
  obtain ⟨hd, rfl⟩ := d
  intro p e R s m args below meth c H locs ls C hl hH hS
  exact lv_iushr C.1 C.2.1 hd rfl (k p e R s m args below meth c H locs ls C hl hH hS)
theorem wp_lshl {x : Int64} {z : Int32} (d : St y pc (.lshl) 1 n) (k : WP κ r y n L (.long (x <<< (z.toInt64 &&& 63)) :: st) w ct Q) : WP κ r y pc L (.int z :: .long x :: st) w ct Q := by
  obtain ⟨hd, rfl⟩ := d
  intro p e R s m args below meth c H locs ls C hl hH hS
  exact lv_lshl C.1 C.2.1 hd rfl (k p e R s m args below meth c H locs ls C hl hH hS)
theorem wp_i2l {x : Int32} (d : St y pc (.i2l) 1 n) (k : WP κ r y n L (.long x.toInt64 :: st) w ct Q) : WP κ r y pc L (.int x :: st) w ct Q := by
  obtain ⟨hd, rfl⟩ := d
  intro p e R s m args below meth c H locs ls C hl hH hS
  exact lv_i2l C.1 C.2.1 hd rfl (k p e R s m args below meth c H locs ls C hl hH hS)
theorem wp_l2i {x : Int64} (d : St y pc (.l2i) 1 n) (k : WP κ r y n L (.int x.toInt32 :: st) w ct Q) : WP κ r y pc L (.long x :: st) w ct Q := by
  obtain ⟨hd, rfl⟩ := d
  intro p e R s m args below meth c H locs ls C hl hH hS
  exact lv_l2i C.1 C.2.1 hd rfl (k p e R s m args below meth c H locs ls C hl hH hS)
theorem wp_i2b {x : Int32} (d : St y pc (.i2b) 1 n) (k : WP κ r y n L (.int x.toInt8.toInt32 :: st) w ct Q) : WP κ r y pc L (.int x :: st) w ct Q := by
  obtain ⟨hd, rfl⟩ := d
  intro p e R s m args below meth c H locs ls C hl hH hS
  exact lv_i2b C.1 C.2.1 hd rfl (k p e R s m args below meth c H locs ls C hl hH hS)
theorem wp_i2s {x : Int32} (d : St y pc (.i2s) 1 n) (k : WP κ r y n L (.int x.toInt16.toInt32 :: st) w ct Q) : WP κ r y pc L (.int x :: st) w ct Q := by
  obtain ⟨hd, rfl⟩ := d
  intro p e R s m args below meth c H locs ls C hl hH hS
  exact lv_i2s C.1 C.2.1 hd rfl (k p e R s m args below meth c H locs ls C hl hH hS)
theorem wp_i2c {x : Int32} (d : St y pc (.i2c) 1 n) (k : WP κ r y n L (.int (x.toUInt32 % 65536).toInt32 :: st) w ct Q) : WP κ r y pc L (.int x :: st) w ct Q := by
  obtain ⟨hd, rfl⟩ := d
  intro p e R s m args below meth c H locs ls C hl hH hS
  exact lv_i2c C.1 C.2.1 hd rfl (k p e R s m args below meth c H locs ls C hl hH hS)
theorem wp_lcmp {x z : Int64} (d : St y pc (.lcmp) 1 n) (k : WP κ r y n L (.int (lg_cmp x z) :: st) w ct Q) : WP κ r y pc L (.long z :: .long x :: st) w ct Q := by
  obtain ⟨hd, rfl⟩ := d
  intro p e R s m args below meth c H locs ls C hl hH hS
  exact W.lcmp C.1 C.2.1 hd (k p e R s m args below meth c H locs ls C hl hH hS)
theorem wp_dup_int {x : Int32} (d : St y pc (.dup) 1 n) (k : WP κ r y n L (.int x :: .int x :: st) w ct Q) : WP κ r y pc L (.int x :: st) w ct Q := by
  obtain ⟨hd, rfl⟩ := d
  intro p e R s m args below meth c H locs ls C hl hH hS
  exact lv_dup C.1 C.2.1 hd rfl (k p e R s m args below meth c H locs ls C hl hH hS)
theorem wp_pop_int {x : Int32} (d : St y pc (.pop) 1 n) (k : WP κ r y n L (st) w ct Q) : WP κ r y pc L (.int x :: st) w ct Q := by
  obtain ⟨hd, rfl⟩ := d
  intro p e R s m args below meth c H locs ls C hl hH hS
  exact lv_pop C.1 C.2.1 hd rfl (k p e R s m args below meth c H locs ls C hl hH hS)
theorem wp_dup_ref {x : Nat} (d : St y pc (.dup) 1 n) (k : WP κ r y n L (.ref x :: .ref x :: st) w ct Q) : WP κ r y pc L (.ref x :: st) w ct Q := by
  obtain ⟨hd, rfl⟩ := d
  intro p e R s m args below meth c H locs ls C hl hH hS
  exact lv_dup C.1 C.2.1 hd rfl (k p e R s m args below meth c H locs ls C hl hH hS)
theorem wp_pop_ref {x : Nat} (d : St y pc (.pop) 1 n) (k : WP κ r y n L (st) w ct Q) : WP κ r y pc L (.ref x :: st) w ct Q := by
  obtain ⟨hd, rfl⟩ := d
  intro p e R s m args below meth c H locs ls C hl hH hS
  exact lv_pop C.1 C.2.1 hd rfl (k p e R s m args below meth c H locs ls C hl hH hS)
theorem wp_dup2_ir {x : Int32} {z : Nat} (d : St y pc (.dup2) 1 n) (k : WP κ r y n L (.int x :: .ref z :: .int x :: .ref z :: st) w ct Q) : WP κ r y pc L (.int x :: .ref z :: st) w ct Q := by
  obtain ⟨hd, rfl⟩ := d
  intro p e R s m args below meth c H locs ls C hl hH hS
  exact lv_dup2_11 C.1 C.2.1 hd rfl rfl (k p e R s m args below meth c H locs ls C hl hH hS)
theorem wp_ldc {i : Nat} {v : Int32} (f : Cond.constant y.1.cls i v ∈ TB) (d : St y pc (.ldc i) 2 n) (k : WP κ r y n L (.int v :: st) w ct Q) : WP κ r y pc L st w ct Q := by
  obtain ⟨hd, rfl⟩ := d
  intro p e R s m args below meth c H locs ls C hl hH hS
  exact lv_ldc C.1 C.2.1 C.2.2.2.1 (C.2.2.2.2.1 _ f) hd (k p e R s m args below meth c H locs ls C hl hH hS)
theorem wp_ldcw {i : Nat} {v : Int32} (f : Cond.constant y.1.cls i v ∈ TB) (d : St y pc (.ldc_w i) 3 n) (k : WP κ r y n L (.int v :: st) w ct Q) : WP κ r y pc L st w ct Q := by
  obtain ⟨hd, rfl⟩ := d
  intro p e R s m args below meth c H locs ls C hl hH hS
  exact lv_ldcw C.1 C.2.1 C.2.2.2.1 (C.2.2.2.2.1 _ f) hd (k p e R s m args below meth c H locs ls C hl hH hS)
theorem wp_ldc2 {i : Nat} {v : Int64} (f : Cond.constantLong y.1.cls i v ∈ TB) (d : St y pc (.ldc2_w i) 3 n) (k : WP κ r y n L (.long v :: st) w ct Q) : WP κ r y pc L st w ct Q := by
  obtain ⟨hd, rfl⟩ := d
  intro p e R s m args below meth c H locs ls C hl hH hS
  exact lv_ldc2 C.1 C.2.1 C.2.2.2.1 (C.2.2.2.2.1 _ f) hd (k p e R s m args below meth c H locs ls C hl hH hS)
theorem wp_if_eq {x : Int32} {off : Int} {tgt : Nat} (d : St y pc (.ifCond .eq off) 3 n) (ht : (pc : Int) + off = (tgt : Int)) (kt : x = 0 → WP κ r y tgt L st w ct Q) (kf : ¬ x = 0 → WP κ r y n L st w ct Q) : WP κ r y pc L (.int x :: st) w ct Q := by
  obtain ⟨hd, rfl⟩ := d
  intro p e R s m args below meth c H locs ls C hl hH hS
  exact lv_if_eq C.1 C.2.1 hd ht (fun q => kt q p e R s m args below meth c H locs ls C hl hH hS) (fun q => kf q p e R s m args below meth c H locs ls C hl hH hS)
theorem wp_if_ne {x : Int32} {off : Int} {tgt : Nat} (d : St y pc (.ifCond .ne off) 3 n) (ht : (pc : Int) + off = (tgt : Int)) (kt : ¬ x = 0 → WP κ r y tgt L st w ct Q) (kf : x = 0 → WP κ r y n L st w ct Q) : WP κ r y pc L (.int x :: st) w ct Q := by
  obtain ⟨hd, rfl⟩ := d
  intro p e R s m args below meth c H locs ls C hl hH hS
  exact lv_if_ne C.1 C.2.1 hd ht (fun q => kt q p e R s m args below meth c H locs ls C hl hH hS) (fun q => kf q p e R s m args below meth c H locs ls C hl hH hS)
theorem wp_if_lt {x : Int32} {off : Int} {tgt : Nat} (d : St y pc (.ifCond .lt off) 3 n) (ht : (pc : Int) + off = (tgt : Int)) (kt : x < 0 → WP κ r y tgt L st w ct Q) (kf : ¬ x < 0 → WP κ r y n L st w ct Q) : WP κ r y pc L (.int x :: st) w ct Q := by
  obtain ⟨hd, rfl⟩ := d
  intro p e R s m args below meth c H locs ls C hl hH hS
  exact lv_if_lt C.1 C.2.1 hd ht (fun q => kt q p e R s m args below meth c H locs ls C hl hH hS) (fun q => kf q p e R s m args below meth c H locs ls C hl hH hS)
theorem wp_if_ge {x : Int32} {off : Int} {tgt : Nat} (d : St y pc (.ifCond .ge off) 3 n) (ht : (pc : Int) + off = (tgt : Int)) (kt : 0 ≤ x → WP κ r y tgt L st w ct Q) (kf : ¬ 0 ≤ x → WP κ r y n L st w ct Q) : WP κ r y pc L (.int x :: st) w ct Q := by
  obtain ⟨hd, rfl⟩ := d
  intro p e R s m args below meth c H locs ls C hl hH hS
  exact lv_if_ge C.1 C.2.1 hd ht (fun q => kt q p e R s m args below meth c H locs ls C hl hH hS) (fun q => kf q p e R s m args below meth c H locs ls C hl hH hS)
theorem wp_if_gt {x : Int32} {off : Int} {tgt : Nat} (d : St y pc (.ifCond .gt off) 3 n) (ht : (pc : Int) + off = (tgt : Int)) (kt : 0 < x → WP κ r y tgt L st w ct Q) (kf : ¬ 0 < x → WP κ r y n L st w ct Q) : WP κ r y pc L (.int x :: st) w ct Q := by
  obtain ⟨hd, rfl⟩ := d
  intro p e R s m args below meth c H locs ls C hl hH hS
  exact lv_if_gt C.1 C.2.1 hd ht (fun q => kt q p e R s m args below meth c H locs ls C hl hH hS) (fun q => kf q p e R s m args below meth c H locs ls C hl hH hS)
theorem wp_if_le {x : Int32} {off : Int} {tgt : Nat} (d : St y pc (.ifCond .le off) 3 n) (ht : (pc : Int) + off = (tgt : Int)) (kt : x ≤ 0 → WP κ r y tgt L st w ct Q) (kf : ¬ x ≤ 0 → WP κ r y n L st w ct Q) : WP κ r y pc L (.int x :: st) w ct Q := by
  obtain ⟨hd, rfl⟩ := d
  intro p e R s m args below meth c H locs ls C hl hH hS
  exact lv_if_le C.1 C.2.1 hd ht (fun q => kt q p e R s m args below meth c H locs ls C hl hH hS) (fun q => kf q p e R s m args below meth c H locs ls C hl hH hS)
theorem wp_icmp_eq {x z : Int32} {off : Int} {tgt : Nat} (d : St y pc (.if_icmp .eq off) 3 n) (ht : (pc : Int) + off = (tgt : Int)) (kt : x = z → WP κ r y tgt L st w ct Q) (kf : ¬ x = z → WP κ r y n L st w ct Q) : WP κ r y pc L (.int z :: .int x :: st) w ct Q := by
  obtain ⟨hd, rfl⟩ := d
  intro p e R s m args below meth c H locs ls C hl hH hS
  exact lv_icmp_eq C.1 C.2.1 hd ht (fun q => kt q p e R s m args below meth c H locs ls C hl hH hS) (fun q => kf q p e R s m args below meth c H locs ls C hl hH hS)
theorem wp_icmp_ne {x z : Int32} {off : Int} {tgt : Nat} (d : St y pc (.if_icmp .ne off) 3 n) (ht : (pc : Int) + off = (tgt : Int)) (kt : ¬ x = z → WP κ r y tgt L st w ct Q) (kf : x = z → WP κ r y n L st w ct Q) : WP κ r y pc L (.int z :: .int x :: st) w ct Q := by
  obtain ⟨hd, rfl⟩ := d
  intro p e R s m args below meth c H locs ls C hl hH hS
  exact lv_icmp_ne C.1 C.2.1 hd ht (fun q => kt q p e R s m args below meth c H locs ls C hl hH hS) (fun q => kf q p e R s m args below meth c H locs ls C hl hH hS)
theorem wp_icmp_lt {x z : Int32} {off : Int} {tgt : Nat} (d : St y pc (.if_icmp .lt off) 3 n) (ht : (pc : Int) + off = (tgt : Int)) (kt : x < z → WP κ r y tgt L st w ct Q) (kf : ¬ x < z → WP κ r y n L st w ct Q) : WP κ r y pc L (.int z :: .int x :: st) w ct Q := by
  obtain ⟨hd, rfl⟩ := d
  intro p e R s m args below meth c H locs ls C hl hH hS
  exact lv_icmp_lt C.1 C.2.1 hd ht (fun q => kt q p e R s m args below meth c H locs ls C hl hH hS) (fun q => kf q p e R s m args below meth c H locs ls C hl hH hS)
theorem wp_icmp_ge {x z : Int32} {off : Int} {tgt : Nat} (d : St y pc (.if_icmp .ge off) 3 n) (ht : (pc : Int) + off = (tgt : Int)) (kt : z ≤ x → WP κ r y tgt L st w ct Q) (kf : ¬ z ≤ x → WP κ r y n L st w ct Q) : WP κ r y pc L (.int z :: .int x :: st) w ct Q := by
  obtain ⟨hd, rfl⟩ := d
  intro p e R s m args below meth c H locs ls C hl hH hS
  exact lv_icmp_ge C.1 C.2.1 hd ht (fun q => kt q p e R s m args below meth c H locs ls C hl hH hS) (fun q => kf q p e R s m args below meth c H locs ls C hl hH hS)
theorem wp_icmp_gt {x z : Int32} {off : Int} {tgt : Nat} (d : St y pc (.if_icmp .gt off) 3 n) (ht : (pc : Int) + off = (tgt : Int)) (kt : z < x → WP κ r y tgt L st w ct Q) (kf : ¬ z < x → WP κ r y n L st w ct Q) : WP κ r y pc L (.int z :: .int x :: st) w ct Q := by
  obtain ⟨hd, rfl⟩ := d
  intro p e R s m args below meth c H locs ls C hl hH hS
  exact lv_icmp_gt C.1 C.2.1 hd ht (fun q => kt q p e R s m args below meth c H locs ls C hl hH hS) (fun q => kf q p e R s m args below meth c H locs ls C hl hH hS)
theorem wp_icmp_le {x z : Int32} {off : Int} {tgt : Nat} (d : St y pc (.if_icmp .le off) 3 n) (ht : (pc : Int) + off = (tgt : Int)) (kt : x ≤ z → WP κ r y tgt L st w ct Q) (kf : ¬ x ≤ z → WP κ r y n L st w ct Q) : WP κ r y pc L (.int z :: .int x :: st) w ct Q := by
  obtain ⟨hd, rfl⟩ := d
  intro p e R s m args below meth c H locs ls C hl hH hS
  exact lv_icmp_le C.1 C.2.1 hd ht (fun q => kt q p e R s m args below meth c H locs ls C hl hH hS) (fun q => kf q p e R s m args below meth c H locs ls C hl hH hS)
theorem wp_goto {off : Int} {tgt : Nat} (d : St y pc (.goto off) 3 n) (ht : (pc : Int) + off = (tgt : Int)) (k : WP κ r y tgt L st w ct Q) : WP κ r y pc L st w ct Q := by
  obtain ⟨hd, rfl⟩ := d
  intro p e R s m args below meth c H locs ls C hl hH hS
  exact lv_goto C.1 C.2.1 hd ht (k p e R s m args below meth c H locs ls C hl hH hS)
theorem wp_iload_0 {x : Int32} (d : St y pc (.iload_n 0) 1 n) (k : WP κ r y n (some (.int x) :: L) (.int x :: st) w ct Q) : WP κ r y pc (some (.int x) :: L) st w ct Q := by
  obtain ⟨hd, rfl⟩ := d
  intro p e R s m args below meth c H locs ls C hl hH hS
  exact lv_iload_n C.1 C.2.1 hd rfl (lvL_at hl (i := 0) rfl) (k p e R s m args below meth c H locs ls C hl hH hS)
theorem wp_iload_1 {x : Int32} {o0 : Option Value} (d : St y pc (.iload_n 1) 1 n) (k : WP κ r y n (o0 :: some (.int x) :: L) (.int x :: st) w ct Q) : WP κ r y pc (o0 :: some (.int x) :: L) st w ct Q := by
  obtain ⟨hd, rfl⟩ := d
  intro p e R s m args below meth c H locs ls C hl hH hS
  exact lv_iload_n C.1 C.2.1 hd rfl (lvL_at hl (i := 1) rfl) (k p e R s m args below meth c H locs ls C hl hH hS)
theorem wp_iload_2 {x : Int32} {o0 : Option Value} {o1 : Option Value} (d : St y pc (.iload_n 2) 1 n) (k : WP κ r y n (o0 :: o1 :: some (.int x) :: L) (.int x :: st) w ct Q) : WP κ r y pc (o0 :: o1 :: some (.int x) :: L) st w ct Q := by
  obtain ⟨hd, rfl⟩ := d
  intro p e R s m args below meth c H locs ls C hl hH hS
  exact lv_iload_n C.1 C.2.1 hd rfl (lvL_at hl (i := 2) rfl) (k p e R s m args below meth c H locs ls C hl hH hS)
theorem wp_iload_3 {x : Int32} {o0 : Option Value} {o1 : Option Value} {o2 : Option Value} (d : St y pc (.iload_n 3) 1 n) (k : WP κ r y n (o0 :: o1 :: o2 :: some (.int x) :: L) (.int x :: st) w ct Q) : WP κ r y pc (o0 :: o1 :: o2 :: some (.int x) :: L) st w ct Q := by
  obtain ⟨hd, rfl⟩ := d
  intro p e R s m args below meth c H locs ls C hl hH hS
  exact lv_iload_n C.1 C.2.1 hd rfl (lvL_at hl (i := 3) rfl) (k p e R s m args below meth c H locs ls C hl hH hS)
theorem wp_iload_4 {x : Int32} {o0 : Option Value} {o1 : Option Value} {o2 : Option Value} {o3 : Option Value} (d : St y pc (.iload 4) 2 n) (k : WP κ r y n (o0 :: o1 :: o2 :: o3 :: some (.int x) :: L) (.int x :: st) w ct Q) : WP κ r y pc (o0 :: o1 :: o2 :: o3 :: some (.int x) :: L) st w ct Q := by
  obtain ⟨hd, rfl⟩ := d
  intro p e R s m args below meth c H locs ls C hl hH hS
  exact lv_iload C.1 C.2.1 hd (lvL_at hl (i := 4) rfl) (k p e R s m args below meth c H locs ls C hl hH hS)
theorem wp_iload_5 {x : Int32} {o0 : Option Value} {o1 : Option Value} {o2 : Option Value} {o3 : Option Value} {o4 : Option Value} (d : St y pc (.iload 5) 2 n) (k : WP κ r y n (o0 :: o1 :: o2 :: o3 :: o4 :: some (.int x) :: L) (.int x :: st) w ct Q) : WP κ r y pc (o0 :: o1 :: o2 :: o3 :: o4 :: some (.int x) :: L) st w ct Q := by
  obtain ⟨hd, rfl⟩ := d
  intro p e R s m args below meth c H locs ls C hl hH hS
  exact lv_iload C.1 C.2.1 hd (lvL_at hl (i := 5) rfl) (k p e R s m args below meth c H locs ls C hl hH hS)
theorem wp_iload_6 {x : Int32} {o0 : Option Value} {o1 : Option Value} {o2 : Option Value} {o3 : Option Value} {o4 : Option Value} {o5 : Option Value} (d : St y pc (.iload 6) 2 n) (k : WP κ r y n (o0 :: o1 :: o2 :: o3 :: o4 :: o5 :: some (.int x) :: L) (.int x :: st) w ct Q) : WP κ r y pc (o0 :: o1 :: o2 :: o3 :: o4 :: o5 :: some (.int x) :: L) st w ct Q := by
  obtain ⟨hd, rfl⟩ := d
  intro p e R s m args below meth c H locs ls C hl hH hS
  exact lv_iload C.1 C.2.1 hd (lvL_at hl (i := 6) rfl) (k p e R s m args below meth c H locs ls C hl hH hS)
theorem wp_iload_7 {x : Int32} {o0 : Option Value} {o1 : Option Value} {o2 : Option Value} {o3 : Option Value} {o4 : Option Value} {o5 : Option Value} {o6 : Option Value} (d : St y pc (.iload 7) 2 n) (k : WP κ r y n (o0 :: o1 :: o2 :: o3 :: o4 :: o5 :: o6 :: some (.int x) :: L) (.int x :: st) w ct Q) : WP κ r y pc (o0 :: o1 :: o2 :: o3 :: o4 :: o5 :: o6 :: some (.int x) :: L) st w ct Q := by
  obtain ⟨hd, rfl⟩ := d
  intro p e R s m args below meth c H locs ls C hl hH hS
  exact lv_iload C.1 C.2.1 hd (lvL_at hl (i := 7) rfl) (k p e R s m args below meth c H locs ls C hl hH hS)
theorem wp_iload_8 {x : Int32} {o0 : Option Value} {o1 : Option Value} {o2 : Option Value} {o3 : Option Value} {o4 : Option Value} {o5 : Option Value} {o6 : Option Value} {o7 : Option Value} (d : St y pc (.iload 8) 2 n) (k : WP κ r y n (o0 :: o1 :: o2 :: o3 :: o4 :: o5 :: o6 :: o7 :: some (.int x) :: L) (.int x :: st) w ct Q) : WP κ r y pc (o0 :: o1 :: o2 :: o3 :: o4 :: o5 :: o6 :: o7 :: some (.int x) :: L) st w ct Q := by
  obtain ⟨hd, rfl⟩ := d
  intro p e R s m args below meth c H locs ls C hl hH hS
  exact lv_iload C.1 C.2.1 hd (lvL_at hl (i := 8) rfl) (k p e R s m args below meth c H locs ls C hl hH hS)
theorem wp_iload_9 {x : Int32} {o0 : Option Value} {o1 : Option Value} {o2 : Option Value} {o3 : Option Value} {o4 : Option Value} {o5 : Option Value} {o6 : Option Value} {o7 : Option Value} {o8 : Option Value} (d : St y pc (.iload 9) 2 n) (k : WP κ r y n (o0 :: o1 :: o2 :: o3 :: o4 :: o5 :: o6 :: o7 :: o8 :: some (.int x) :: L) (.int x :: st) w ct Q) : WP κ r y pc (o0 :: o1 :: o2 :: o3 :: o4 :: o5 :: o6 :: o7 :: o8 :: some (.int x) :: L) st w ct Q := by
  obtain ⟨hd, rfl⟩ := d
  intro p e R s m args below meth c H locs ls C hl hH hS
  exact lv_iload C.1 C.2.1 hd (lvL_at hl (i := 9) rfl) (k p e R s m args below meth c H locs ls C hl hH hS)
theorem wp_lload_0 {x : Int64} (d : St y pc (.lload_n 0) 1 n) (k : WP κ r y n (some (.long x) :: L) (.long x :: st) w ct Q) : WP κ r y pc (some (.long x) :: L) st w ct Q := by
  obtain ⟨hd, rfl⟩ := d
  intro p e R s m args below meth c H locs ls C hl hH hS
  exact lv_lload_n C.1 C.2.1 hd rfl (lvL_at hl (i := 0) rfl) (k p e R s m args below meth c H locs ls C hl hH hS)
theorem wp_lload_1 {x : Int64} {o0 : Option Value} (d : St y pc (.lload_n 1) 1 n) (k : WP κ r y n (o0 :: some (.long x) :: L) (.long x :: st) w ct Q) : WP κ r y pc (o0 :: some (.long x) :: L) st w ct Q := by
  obtain ⟨hd, rfl⟩ := d
  intro p e R s m args below meth c H locs ls C hl hH hS
  exact lv_lload_n C.1 C.2.1 hd rfl (lvL_at hl (i := 1) rfl) (k p e R s m args below meth c H locs ls C hl hH hS)
theorem wp_lload_2 {x : Int64} {o0 : Option Value} {o1 : Option Value} (d : St y pc (.lload_n 2) 1 n) (k : WP κ r y n (o0 :: o1 :: some (.long x) :: L) (.long x :: st) w ct Q) : WP κ r y pc (o0 :: o1 :: some (.long x) :: L) st w ct Q := by
  obtain ⟨hd, rfl⟩ := d
  intro p e R s m args below meth c H locs ls C hl hH hS
  exact lv_lload_n C.1 C.2.1 hd rfl (lvL_at hl (i := 2) rfl) (k p e R s m args below meth c H locs ls C hl hH hS)
theorem wp_lload_3 {x : Int64} {o0 : Option Value} {o1 : Option Value} {o2 : Option Value} (d : St y pc (.lload_n 3) 1 n) (k : WP κ r y n (o0 :: o1 :: o2 :: some (.long x) :: L) (.long x :: st) w ct Q) : WP κ r y pc (o0 :: o1 :: o2 :: some (.long x) :: L) st w ct Q := by
  obtain ⟨hd, rfl⟩ := d
  intro p e R s m args below meth c H locs ls C hl hH hS
  exact lv_lload_n C.1 C.2.1 hd rfl (lvL_at hl (i := 3) rfl) (k p e R s m args below meth c H locs ls C hl hH hS)
theorem wp_lload_4 {x : Int64} {o0 : Option Value} {o1 : Option Value} {o2 : Option Value} {o3 : Option Value} (d : St y pc (.lload 4) 2 n) (k : WP κ r y n (o0 :: o1 :: o2 :: o3 :: some (.long x) :: L) (.long x :: st) w ct Q) : WP κ r y pc (o0 :: o1 :: o2 :: o3 :: some (.long x) :: L) st w ct Q := by
  obtain ⟨hd, rfl⟩ := d
  intro p e R s m args below meth c H locs ls C hl hH hS
  exact lv_lload C.1 C.2.1 hd (lvL_at hl (i := 4) rfl) (k p e R s m args below meth c H locs ls C hl hH hS)
theorem wp_lload_5 {x : Int64} {o0 : Option Value} {o1 : Option Value} {o2 : Option Value} {o3 : Option Value} {o4 : Option Value} (d : St y pc (.lload 5) 2 n) (k : WP κ r y n (o0 :: o1 :: o2 :: o3 :: o4 :: some (.long x) :: L) (.long x :: st) w ct Q) : WP κ r y pc (o0 :: o1 :: o2 :: o3 :: o4 :: some (.long x) :: L) st w ct Q := by
  obtain ⟨hd, rfl⟩ := d
  intro p e R s m args below meth c H locs ls C hl hH hS
  exact lv_lload C.1 C.2.1 hd (lvL_at hl (i := 5) rfl) (k p e R s m args below meth c H locs ls C hl hH hS)
theorem wp_lload_6 {x : Int64} {o0 : Option Value} {o1 : Option Value} {o2 : Option Value} {o3 : Option Value} {o4 : Option Value} {o5 : Option Value} (d : St y pc (.lload 6) 2 n) (k : WP κ r y n (o0 :: o1 :: o2 :: o3 :: o4 :: o5 :: some (.long x) :: L) (.long x :: st) w ct Q) : WP κ r y pc (o0 :: o1 :: o2 :: o3 :: o4 :: o5 :: some (.long x) :: L) st w ct Q := by
  obtain ⟨hd, rfl⟩ := d
  intro p e R s m args below meth c H locs ls C hl hH hS
  exact lv_lload C.1 C.2.1 hd (lvL_at hl (i := 6) rfl) (k p e R s m args below meth c H locs ls C hl hH hS)
theorem wp_lload_7 {x : Int64} {o0 : Option Value} {o1 : Option Value} {o2 : Option Value} {o3 : Option Value} {o4 : Option Value} {o5 : Option Value} {o6 : Option Value} (d : St y pc (.lload 7) 2 n) (k : WP κ r y n (o0 :: o1 :: o2 :: o3 :: o4 :: o5 :: o6 :: some (.long x) :: L) (.long x :: st) w ct Q) : WP κ r y pc (o0 :: o1 :: o2 :: o3 :: o4 :: o5 :: o6 :: some (.long x) :: L) st w ct Q := by
  obtain ⟨hd, rfl⟩ := d
  intro p e R s m args below meth c H locs ls C hl hH hS
  exact lv_lload C.1 C.2.1 hd (lvL_at hl (i := 7) rfl) (k p e R s m args below meth c H locs ls C hl hH hS)
theorem wp_lload_8 {x : Int64} {o0 : Option Value} {o1 : Option Value} {o2 : Option Value} {o3 : Option Value} {o4 : Option Value} {o5 : Option Value} {o6 : Option Value} {o7 : Option Value} (d : St y pc (.lload 8) 2 n) (k : WP κ r y n (o0 :: o1 :: o2 :: o3 :: o4 :: o5 :: o6 :: o7 :: some (.long x) :: L) (.long x :: st) w ct Q) : WP κ r y pc (o0 :: o1 :: o2 :: o3 :: o4 :: o5 :: o6 :: o7 :: some (.long x) :: L) st w ct Q := by
  obtain ⟨hd, rfl⟩ := d
  intro p e R s m args below meth c H locs ls C hl hH hS
  exact lv_lload C.1 C.2.1 hd (lvL_at hl (i := 8) rfl) (k p e R s m args below meth c H locs ls C hl hH hS)
theorem wp_lload_9 {x : Int64} {o0 : Option Value} {o1 : Option Value} {o2 : Option Value} {o3 : Option Value} {o4 : Option Value} {o5 : Option Value} {o6 : Option Value} {o7 : Option Value} {o8 : Option Value} (d : St y pc (.lload 9) 2 n) (k : WP κ r y n (o0 :: o1 :: o2 :: o3 :: o4 :: o5 :: o6 :: o7 :: o8 :: some (.long x) :: L) (.long x :: st) w ct Q) : WP κ r y pc (o0 :: o1 :: o2 :: o3 :: o4 :: o5 :: o6 :: o7 :: o8 :: some (.long x) :: L) st w ct Q := by
  obtain ⟨hd, rfl⟩ := d
  intro p e R s m args below meth c H locs ls C hl hH hS
  exact lv_lload C.1 C.2.1 hd (lvL_at hl (i := 9) rfl) (k p e R s m args below meth c H locs ls C hl hH hS)
theorem wp_aload_0 {x : Nat} (d : St y pc (.aload_n 0) 1 n) (k : WP κ r y n (some (.ref x) :: L) (.ref x :: st) w ct Q) : WP κ r y pc (some (.ref x) :: L) st w ct Q := by
  obtain ⟨hd, rfl⟩ := d
  intro p e R s m args below meth c H locs ls C hl hH hS
  exact lv_aload_n C.1 C.2.1 hd rfl (lvL_at hl (i := 0) rfl) (k p e R s m args below meth c H locs ls C hl hH hS)
theorem wp_aload_1 {x : Nat} {o0 : Option Value} (d : St y pc (.aload_n 1) 1 n) (k : WP κ r y n (o0 :: some (.ref x) :: L) (.ref x :: st) w ct Q) : WP κ r y pc (o0 :: some (.ref x) :: L) st w ct Q := by
  obtain ⟨hd, rfl⟩ := d
  intro p e R s m args below meth c H locs ls C hl hH hS
  exact lv_aload_n C.1 C.2.1 hd rfl (lvL_at hl (i := 1) rfl) (k p e R s m args below meth c H locs ls C hl hH hS)
theorem wp_aload_2 {x : Nat} {o0 : Option Value} {o1 : Option Value} (d : St y pc (.aload_n 2) 1 n) (k : WP κ r y n (o0 :: o1 :: some (.ref x) :: L) (.ref x :: st) w ct Q) : WP κ r y pc (o0 :: o1 :: some (.ref x) :: L) st w ct Q := by
  obtain ⟨hd, rfl⟩ := d
  intro p e R s m args below meth c H locs ls C hl hH hS
  exact lv_aload_n C.1 C.2.1 hd rfl (lvL_at hl (i := 2) rfl) (k p e R s m args below meth c H locs ls C hl hH hS)
theorem wp_aload_3 {x : Nat} {o0 : Option Value} {o1 : Option Value} {o2 : Option Value} (d : St y pc (.aload_n 3) 1 n) (k : WP κ r y n (o0 :: o1 :: o2 :: some (.ref x) :: L) (.ref x :: st) w ct Q) : WP κ r y pc (o0 :: o1 :: o2 :: some (.ref x) :: L) st w ct Q := by
  obtain ⟨hd, rfl⟩ := d
  intro p e R s m args below meth c H locs ls C hl hH hS
  exact lv_aload_n C.1 C.2.1 hd rfl (lvL_at hl (i := 3) rfl) (k p e R s m args below meth c H locs ls C hl hH hS)
theorem wp_aload_4 {x : Nat} {o0 : Option Value} {o1 : Option Value} {o2 : Option Value} {o3 : Option Value} (d : St y pc (.aload 4) 2 n) (k : WP κ r y n (o0 :: o1 :: o2 :: o3 :: some (.ref x) :: L) (.ref x :: st) w ct Q) : WP κ r y pc (o0 :: o1 :: o2 :: o3 :: some (.ref x) :: L) st w ct Q := by
  obtain ⟨hd, rfl⟩ := d
  intro p e R s m args below meth c H locs ls C hl hH hS
  exact lv_aload C.1 C.2.1 hd (lvL_at hl (i := 4) rfl) (k p e R s m args below meth c H locs ls C hl hH hS)
theorem wp_aload_5 {x : Nat} {o0 : Option Value} {o1 : Option Value} {o2 : Option Value} {o3 : Option Value} {o4 : Option Value} (d : St y pc (.aload 5) 2 n) (k : WP κ r y n (o0 :: o1 :: o2 :: o3 :: o4 :: some (.ref x) :: L) (.ref x :: st) w ct Q) : WP κ r y pc (o0 :: o1 :: o2 :: o3 :: o4 :: some (.ref x) :: L) st w ct Q := by
  obtain ⟨hd, rfl⟩ := d
  intro p e R s m args below meth c H locs ls C hl hH hS
  exact lv_aload C.1 C.2.1 hd (lvL_at hl (i := 5) rfl) (k p e R s m args below meth c H locs ls C hl hH hS)
theorem wp_aload_6 {x : Nat} {o0 : Option Value} {o1 : Option Value} {o2 : Option Value} {o3 : Option Value} {o4 : Option Value} {o5 : Option Value} (d : St y pc (.aload 6) 2 n) (k : WP κ r y n (o0 :: o1 :: o2 :: o3 :: o4 :: o5 :: some (.ref x) :: L) (.ref x :: st) w ct Q) : WP κ r y pc (o0 :: o1 :: o2 :: o3 :: o4 :: o5 :: some (.ref x) :: L) st w ct Q := by
  obtain ⟨hd, rfl⟩ := d
  intro p e R s m args below meth c H locs ls C hl hH hS
  exact lv_aload C.1 C.2.1 hd (lvL_at hl (i := 6) rfl) (k p e R s m args below meth c H locs ls C hl hH hS)
theorem wp_aload_7 {x : Nat} {o0 : Option Value} {o1 : Option Value} {o2 : Option Value} {o3 : Option Value} {o4 : Option Value} {o5 : Option Value} {o6 : Option Value} (d : St y pc (.aload 7) 2 n) (k : WP κ r y n (o0 :: o1 :: o2 :: o3 :: o4 :: o5 :: o6 :: some (.ref x) :: L) (.ref x :: st) w ct Q) : WP κ r y pc (o0 :: o1 :: o2 :: o3 :: o4 :: o5 :: o6 :: some (.ref x) :: L) st w ct Q := by
  obtain ⟨hd, rfl⟩ := d
  intro p e R s m args below meth c H locs ls C hl hH hS
  exact lv_aload C.1 C.2.1 hd (lvL_at hl (i := 7) rfl) (k p e R s m args below meth c H locs ls C hl hH hS)
theorem wp_aload_8 {x : Nat} {o0 : Option Value} {o1 : Option Value} {o2 : Option Value} {o3 : Option Value} {o4 : Option Value} {o5 : Option Value} {o6 : Option Value} {o7 : Option Value} (d : St y pc (.aload 8) 2 n) (k : WP κ r y n (o0 :: o1 :: o2 :: o3 :: o4 :: o5 :: o6 :: o7 :: some (.ref x) :: L) (.ref x :: st) w ct Q) : WP κ r y pc (o0 :: o1 :: o2 :: o3 :: o4 :: o5 :: o6 :: o7 :: some (.ref x) :: L) st w ct Q := by
  obtain ⟨hd, rfl⟩ := d
  intro p e R s m args below meth c H locs ls C hl hH hS
  exact lv_aload C.1 C.2.1 hd (lvL_at hl (i := 8) rfl) (k p e R s m args below meth c H locs ls C hl hH hS)
theorem wp_aload_9 {x : Nat} {o0 : Option Value} {o1 : Option Value} {o2 : Option Value} {o3 : Option Value} {o4 : Option Value} {o5 : Option Value} {o6 : Option Value} {o7 : Option Value} {o8 : Option Value} (d : St y pc (.aload 9) 2 n) (k : WP κ r y n (o0 :: o1 :: o2 :: o3 :: o4 :: o5 :: o6 :: o7 :: o8 :: some (.ref x) :: L) (.ref x :: st) w ct Q) : WP κ r y pc (o0 :: o1 :: o2 :: o3 :: o4 :: o5 :: o6 :: o7 :: o8 :: some (.ref x) :: L) st w ct Q := by
  obtain ⟨hd, rfl⟩ := d
  intro p e R s m args below meth c H locs ls C hl hH hS
  exact lv_aload C.1 C.2.1 hd (lvL_at hl (i := 9) rfl) (k p e R s m args below meth c H locs ls C hl hH hS)
theorem wp_istore_0 {x : Int32} {oo : Option Value} (d : St y pc (.istore_n 0) 1 n) (hi : 0 < y.2.2.1) (k : WP κ r y n (some (.int x) :: L) st w ct Q) : WP κ r y pc (oo :: L) (.int x :: st) w ct Q := by
  obtain ⟨hd, rfl⟩ := d
  intro p e R s m args below meth c H locs ls C hl hH hS
  exact lv_istore_n (i := 0) C.1 C.2.1 hd rfl hl hi rfl (fun ls' hl' => k p e R s m args below meth c H locs ls' C (lvL_set (L := oo :: L) (i := 0) hl' (fun u h1 h2 => absurd h1 (by omega)) (by simp)) hH hS)
theorem wp_istore_1 {x : Int32} {oo : Option Value} {o0 : Option Value} (d : St y pc (.istore_n 1) 1 n) (hi : 1 < y.2.2.1) (hc : lcat o0 = true) (k : WP κ r y n (o0 :: some (.int x) :: L) st w ct Q) : WP κ r y pc (o0 :: oo :: L) (.int x :: st) w ct Q := by
  obtain ⟨hd, rfl⟩ := d
  intro p e R s m args below meth c H locs ls C hl hH hS
  exact lv_istore_n (i := 1) C.1 C.2.1 hd rfl hl hi rfl (fun ls' hl' => k p e R s m args below meth c H locs ls' C (lvL_set (L := o0 :: oo :: L) (i := 1) hl' (fun u h1 h2 => lcat_of hc (by simpa using h2)) (by simp)) hH hS)
theorem wp_istore_2 {x : Int32} {oo : Option Value} {o0 : Option Value} {o1 : Option Value} (d : St y pc (.istore_n 2) 1 n) (hi : 2 < y.2.2.1) (hc : lcat o1 = true) (k : WP κ r y n (o0 :: o1 :: some (.int x) :: L) st w ct Q) : WP κ r y pc (o0 :: o1 :: oo :: L) (.int x :: st) w ct Q := by
  obtain ⟨hd, rfl⟩ := d
  intro p e R s m args below meth c H locs ls C hl hH hS
  exact lv_istore_n (i := 2) C.1 C.2.1 hd rfl hl hi rfl (fun ls' hl' => k p e R s m args below meth c H locs ls' C (lvL_set (L := o0 :: o1 :: oo :: L) (i := 2) hl' (fun u h1 h2 => lcat_of hc (by simpa using h2)) (by simp)) hH hS)
theorem wp_istore_3 {x : Int32} {oo : Option Value} {o0 : Option Value} {o1 : Option Value} {o2 : Option Value} (d : St y pc (.istore_n 3) 1 n) (hi : 3 < y.2.2.1) (hc : lcat o2 = true) (k : WP κ r y n (o0 :: o1 :: o2 :: some (.int x) :: L) st w ct Q) : WP κ r y pc (o0 :: o1 :: o2 :: oo :: L) (.int x :: st) w ct Q := by
  obtain ⟨hd, rfl⟩ := d
  intro p e R s m args below meth c H locs ls C hl hH hS
  exact lv_istore_n (i := 3) C.1 C.2.1 hd rfl hl hi rfl (fun ls' hl' => k p e R s m args below meth c H locs ls' C (lvL_set (L := o0 :: o1 :: o2 :: oo :: L) (i := 3) hl' (fun u h1 h2 => lcat_of hc (by simpa using h2)) (by simp)) hH hS)
theorem wp_istore_4 {x : Int32} {oo : Option Value} {o0 : Option Value} {o1 : Option Value} {o2 : Option Value} {o3 : Option Value} (d : St y pc (.istore 4) 2 n) (hi : 4 < y.2.2.1) (hc : lcat o3 = true) (k : WP κ r y n (o0 :: o1 :: o2 :: o3 :: some (.int x) :: L) st w ct Q) : WP κ r y pc (o0 :: o1 :: o2 :: o3 :: oo :: L) (.int x :: st) w ct Q := by
  obtain ⟨hd, rfl⟩ := d
  intro p e R s m args below meth c H locs ls C hl hH hS
  exact lv_istore (i := 4) C.1 C.2.1 hd hl hi rfl (fun ls' hl' => k p e R s m args below meth c H locs ls' C (lvL_set (L := o0 :: o1 :: o2 :: o3 :: oo :: L) (i := 4) hl' (fun u h1 h2 => lcat_of hc (by simpa using h2)) (by simp)) hH hS)
theorem wp_istore_5 {x : Int32} {oo : Option Value} {o0 : Option Value} {o1 : Option Value} {o2 : Option Value} {o3 : Option Value} {o4 : Option Value} (d : St y pc (.istore 5) 2 n) (hi : 5 < y.2.2.1) (hc : lcat o4 = true) (k : WP κ r y n (o0 :: o1 :: o2 :: o3 :: o4 :: some (.int x) :: L) st w ct Q) : WP κ r y pc (o0 :: o1 :: o2 :: o3 :: o4 :: oo :: L) (.int x :: st) w ct Q := by
  obtain ⟨hd, rfl⟩ := d
  intro p e R s m args below meth c H locs ls C hl hH hS
  exact lv_istore (i := 5) C.1 C.2.1 hd hl hi rfl (fun ls' hl' => k p e R s m args below meth c H locs ls' C (lvL_set (L := o0 :: o1 :: o2 :: o3 :: o4 :: oo :: L) (i := 5) hl' (fun u h1 h2 => lcat_of hc (by simpa using h2)) (by simp)) hH hS)
theorem wp_istore_6 {x : Int32} {oo : Option Value} {o0 : Option Value} {o1 : Option Value} {o2 : Option Value} {o3 : Option Value} {o4 : Option Value} {o5 : Option Value} (d : St y pc (.istore 6) 2 n) (hi : 6 < y.2.2.1) (hc : lcat o5 = true) (k : WP κ r y n (o0 :: o1 :: o2 :: o3 :: o4 :: o5 :: some (.int x) :: L) st w ct Q) : WP κ r y pc (o0 :: o1 :: o2 :: o3 :: o4 :: o5 :: oo :: L) (.int x :: st) w ct Q := by
  obtain ⟨hd, rfl⟩ := d
  intro p e R s m args below meth c H locs ls C hl hH hS
  exact lv_istore (i := 6) C.1 C.2.1 hd hl hi rfl (fun ls' hl' => k p e R s m args below meth c H locs ls' C (lvL_set (L := o0 :: o1 :: o2 :: o3 :: o4 :: o5 :: oo :: L) (i := 6) hl' (fun u h1 h2 => lcat_of hc (by simpa using h2)) (by simp)) hH hS)
theorem wp_istore_7 {x : Int32} {oo : Option Value} {o0 : Option Value} {o1 : Option Value} {o2 : Option Value} {o3 : Option Value} {o4 : Option Value} {o5 : Option Value} {o6 : Option Value} (d : St y pc (.istore 7) 2 n) (hi : 7 < y.2.2.1) (hc : lcat o6 = true) (k : WP κ r y n (o0 :: o1 :: o2 :: o3 :: o4 :: o5 :: o6 :: some (.int x) :: L) st w ct Q) : WP κ r y pc (o0 :: o1 :: o2 :: o3 :: o4 :: o5 :: o6 :: oo :: L) (.int x :: st) w ct Q := by
  obtain ⟨hd, rfl⟩ := d
  intro p e R s m args below meth c H locs ls C hl hH hS
  exact lv_istore (i := 7) C.1 C.2.1 hd hl hi rfl (fun ls' hl' => k p e R s m args below meth c H locs ls' C (lvL_set (L := o0 :: o1 :: o2 :: o3 :: o4 :: o5 :: o6 :: oo :: L) (i := 7) hl' (fun u h1 h2 => lcat_of hc (by simpa using h2)) (by simp)) hH hS)
theorem wp_istore_8 {x : Int32} {oo : Option Value} {o0 : Option Value} {o1 : Option Value} {o2 : Option Value} {o3 : Option Value} {o4 : Option Value} {o5 : Option Value} {o6 : Option Value} {o7 : Option Value} (d : St y pc (.istore 8) 2 n) (hi : 8 < y.2.2.1) (hc : lcat o7 = true) (k : WP κ r y n (o0 :: o1 :: o2 :: o3 :: o4 :: o5 :: o6 :: o7 :: some (.int x) :: L) st w ct Q) : WP κ r y pc (o0 :: o1 :: o2 :: o3 :: o4 :: o5 :: o6 :: o7 :: oo :: L) (.int x :: st) w ct Q := by
  obtain ⟨hd, rfl⟩ := d
  intro p e R s m args below meth c H locs ls C hl hH hS
  exact lv_istore (i := 8) C.1 C.2.1 hd hl hi rfl (fun ls' hl' => k p e R s m args below meth c H locs ls' C (lvL_set (L := o0 :: o1 :: o2 :: o3 :: o4 :: o5 :: o6 :: o7 :: oo :: L) (i := 8) hl' (fun u h1 h2 => lcat_of hc (by simpa using h2)) (by simp)) hH hS)
theorem wp_istore_9 {x : Int32} {oo : Option Value} {o0 : Option Value} {o1 : Option Value} {o2 : Option Value} {o3 : Option Value} {o4 : Option Value} {o5 : Option Value} {o6 : Option Value} {o7 : Option Value} {o8 : Option Value} (d : St y pc (.istore 9) 2 n) (hi : 9 < y.2.2.1) (hc : lcat o8 = true) (k : WP κ r y n (o0 :: o1 :: o2 :: o3 :: o4 :: o5 :: o6 :: o7 :: o8 :: some (.int x) :: L) st w ct Q) : WP κ r y pc (o0 :: o1 :: o2 :: o3 :: o4 :: o5 :: o6 :: o7 :: o8 :: oo :: L) (.int x :: st) w ct Q := by
  obtain ⟨hd, rfl⟩ := d
  intro p e R s m args below meth c H locs ls C hl hH hS
  exact lv_istore (i := 9) C.1 C.2.1 hd hl hi rfl (fun ls' hl' => k p e R s m args below meth c H locs ls' C (lvL_set (L := o0 :: o1 :: o2 :: o3 :: o4 :: o5 :: o6 :: o7 :: o8 :: oo :: L) (i := 9) hl' (fun u h1 h2 => lcat_of hc (by simpa using h2)) (by simp)) hH hS)
theorem wp_astore_0 {x : Nat} {oo : Option Value} (d : St y pc (.astore_n 0) 1 n) (hi : 0 < y.2.2.1) (k : WP κ r y n (some (.ref x) :: L) st w ct Q) : WP κ r y pc (oo :: L) (.ref x :: st) w ct Q := by
  obtain ⟨hd, rfl⟩ := d
  intro p e R s m args below meth c H locs ls C hl hH hS
  exact lv_astore_n (i := 0) C.1 C.2.1 hd rfl hl hi rfl (fun ls' hl' => k p e R s m args below meth c H locs ls' C (lvL_set (L := oo :: L) (i := 0) hl' (fun u h1 h2 => absurd h1 (by omega)) (by simp)) hH hS)
theorem wp_astore_1 {x : Nat} {oo : Option Value} {o0 : Option Value} (d : St y pc (.astore_n 1) 1 n) (hi : 1 < y.2.2.1) (hc : lcat o0 = true) (k : WP κ r y n (o0 :: some (.ref x) :: L) st w ct Q) : WP κ r y pc (o0 :: oo :: L) (.ref x :: st) w ct Q := by
  obtain ⟨hd, rfl⟩ := d
  intro p e R s m args below meth c H locs ls C hl hH hS
  exact lv_astore_n (i := 1) C.1 C.2.1 hd rfl hl hi rfl (fun ls' hl' => k p e R s m args below meth c H locs ls' C (lvL_set (L := o0 :: oo :: L) (i := 1) hl' (fun u h1 h2 => lcat_of hc (by simpa using h2)) (by simp)) hH hS)
theorem wp_astore_2 {x : Nat} {oo : Option Value} {o0 : Option Value} {o1 : Option Value} (d : St y pc (.astore_n 2) 1 n) (hi : 2 < y.2.2.1) (hc : lcat o1 = true) (k : WP κ r y n (o0 :: o1 :: some (.ref x) :: L) st w ct Q) : WP κ r y pc (o0 :: o1 :: oo :: L) (.ref x :: st) w ct Q := by
  obtain ⟨hd, rfl⟩ := d
  intro p e R s m args below meth c H locs ls C hl hH hS
  exact lv_astore_n (i := 2) C.1 C.2.1 hd rfl hl hi rfl (fun ls' hl' => k p e R s m args below meth c H locs ls' C (lvL_set (L := o0 :: o1 :: oo :: L) (i := 2) hl' (fun u h1 h2 => lcat_of hc (by simpa using h2)) (by simp)) hH hS)
theorem wp_astore_3 {x : Nat} {oo : Option Value} {o0 : Option Value} {o1 : Option Value} {o2 : Option Value} (d : St y pc (.astore_n 3) 1 n) (hi : 3 < y.2.2.1) (hc : lcat o2 = true) (k : WP κ r y n (o0 :: o1 :: o2 :: some (.ref x) :: L) st w ct Q) : WP κ r y pc (o0 :: o1 :: o2 :: oo :: L) (.ref x :: st) w ct Q := by
  obtain ⟨hd, rfl⟩ := d
  intro p e R s m args below meth c H locs ls C hl hH hS
  exact lv_astore_n (i := 3) C.1 C.2.1 hd rfl hl hi rfl (fun ls' hl' => k p e R s m args below meth c H locs ls' C (lvL_set (L := o0 :: o1 :: o2 :: oo :: L) (i := 3) hl' (fun u h1 h2 => lcat_of hc (by simpa using h2)) (by simp)) hH hS)
theorem wp_astore_4 {x : Nat} {oo : Option Value} {o0 : Option Value} {o1 : Option Value} {o2 : Option Value} {o3 : Option Value} (d : St y pc (.astore 4) 2 n) (hi : 4 < y.2.2.1) (hc : lcat o3 = true) (k : WP κ r y n (o0 :: o1 :: o2 :: o3 :: some (.ref x) :: L) st w ct Q) : WP κ r y pc (o0 :: o1 :: o2 :: o3 :: oo :: L) (.ref x :: st) w ct Q := by
  obtain ⟨hd, rfl⟩ := d
  intro p e R s m args below meth c H locs ls C hl hH hS
  exact lv_astore (i := 4) C.1 C.2.1 hd hl hi rfl (fun ls' hl' => k p e R s m args below meth c H locs ls' C (lvL_set (L := o0 :: o1 :: o2 :: o3 :: oo :: L) (i := 4) hl' (fun u h1 h2 => lcat_of hc (by simpa using h2)) (by simp)) hH hS)
theorem wp_astore_5 {x : Nat} {oo : Option Value} {o0 : Option Value} {o1 : Option Value} {o2 : Option Value} {o3 : Option Value} {o4 : Option Value} (d : St y pc (.astore 5) 2 n) (hi : 5 < y.2.2.1) (hc : lcat o4 = true) (k : WP κ r y n (o0 :: o1 :: o2 :: o3 :: o4 :: some (.ref x) :: L) st w ct Q) : WP κ r y pc (o0 :: o1 :: o2 :: o3 :: o4 :: oo :: L) (.ref x :: st) w ct Q := by
  obtain ⟨hd, rfl⟩ := d
  intro p e R s m args below meth c H locs ls C hl hH hS
  exact lv_astore (i := 5) C.1 C.2.1 hd hl hi rfl (fun ls' hl' => k p e R s m args below meth c H locs ls' C (lvL_set (L := o0 :: o1 :: o2 :: o3 :: o4 :: oo :: L) (i := 5) hl' (fun u h1 h2 => lcat_of hc (by simpa using h2)) (by simp)) hH hS)
theorem wp_astore_6 {x : Nat} {oo : Option Value} {o0 : Option Value} {o1 : Option Value} {o2 : Option Value} {o3 : Option Value} {o4 : Option Value} {o5 : Option Value} (d : St y pc (.astore 6) 2 n) (hi : 6 < y.2.2.1) (hc : lcat o5 = true) (k : WP κ r y n (o0 :: o1 :: o2 :: o3 :: o4 :: o5 :: some (.ref x) :: L) st w ct Q) : WP κ r y pc (o0 :: o1 :: o2 :: o3 :: o4 :: o5 :: oo :: L) (.ref x :: st) w ct Q := by
  obtain ⟨hd, rfl⟩ := d
  intro p e R s m args below meth c H locs ls C hl hH hS
  exact lv_astore (i := 6) C.1 C.2.1 hd hl hi rfl (fun ls' hl' => k p e R s m args below meth c H locs ls' C (lvL_set (L := o0 :: o1 :: o2 :: o3 :: o4 :: o5 :: oo :: L) (i := 6) hl' (fun u h1 h2 => lcat_of hc (by simpa using h2)) (by simp)) hH hS)
theorem wp_astore_7 {x : Nat} {oo : Option Value} {o0 : Option Value} {o1 : Option Value} {o2 : Option Value} {o3 : Option Value} {o4 : Option Value} {o5 : Option Value} {o6 : Option Value} (d : St y pc (.astore 7) 2 n) (hi : 7 < y.2.2.1) (hc : lcat o6 = true) (k : WP κ r y n (o0 :: o1 :: o2 :: o3 :: o4 :: o5 :: o6 :: some (.ref x) :: L) st w ct Q) : WP κ r y pc (o0 :: o1 :: o2 :: o3 :: o4 :: o5 :: o6 :: oo :: L) (.ref x :: st) w ct Q := by
  obtain ⟨hd, rfl⟩ := d
  intro p e R s m args below meth c H locs ls C hl hH hS
  exact lv_astore (i := 7) C.1 C.2.1 hd hl hi rfl (fun ls' hl' => k p e R s m args below meth c H locs ls' C (lvL_set (L := o0 :: o1 :: o2 :: o3 :: o4 :: o5 :: o6 :: oo :: L) (i := 7) hl' (fun u h1 h2 => lcat_of hc (by simpa using h2)) (by simp)) hH hS)
theorem wp_astore_8 {x : Nat} {oo : Option Value} {o0 : Option Value} {o1 : Option Value} {o2 : Option Value} {o3 : Option Value} {o4 : Option Value} {o5 : Option Value} {o6 : Option Value} {o7 : Option Value} (d : St y pc (.astore 8) 2 n) (hi : 8 < y.2.2.1) (hc : lcat o7 = true) (k : WP κ r y n (o0 :: o1 :: o2 :: o3 :: o4 :: o5 :: o6 :: o7 :: some (.ref x) :: L) st w ct Q) : WP κ r y pc (o0 :: o1 :: o2 :: o3 :: o4 :: o5 :: o6 :: o7 :: oo :: L) (.ref x :: st) w ct Q := by
  obtain ⟨hd, rfl⟩ := d
  intro p e R s m args below meth c H locs ls C hl hH hS
  exact lv_astore (i := 8) C.1 C.2.1 hd hl hi rfl (fun ls' hl' => k p e R s m args below meth c H locs ls' C (lvL_set (L := o0 :: o1 :: o2 :: o3 :: o4 :: o5 :: o6 :: o7 :: oo :: L) (i := 8) hl' (fun u h1 h2 => lcat_of hc (by simpa using h2)) (by simp)) hH hS)
theorem wp_astore_9 {x : Nat} {oo : Option Value} {o0 : Option Value} {o1 : Option Value} {o2 : Option Value} {o3 : Option Value} {o4 : Option Value} {o5 : Option Value} {o6 : Option Value} {o7 : Option Value} {o8 : Option Value} (d : St y pc (.astore 9) 2 n) (hi : 9 < y.2.2.1) (hc : lcat o8 = true) (k : WP κ r y n (o0 :: o1 :: o2 :: o3 :: o4 :: o5 :: o6 :: o7 :: o8 :: some (.ref x) :: L) st w ct Q) : WP κ r y pc (o0 :: o1 :: o2 :: o3 :: o4 :: o5 :: o6 :: o7 :: o8 :: oo :: L) (.ref x :: st) w ct Q := by
  obtain ⟨hd, rfl⟩ := d
  intro p e R s m args below meth c H locs ls C hl hH hS
  exact lv_astore (i := 9) C.1 C.2.1 hd hl hi rfl (fun ls' hl' => k p e R s m args below meth c H locs ls' C (lvL_set (L := o0 :: o1 :: o2 :: o3 :: o4 :: o5 :: o6 :: o7 :: o8 :: oo :: L) (i := 9) hl' (fun u h1 h2 => lcat_of hc (by simpa using h2)) (by simp)) hH hS)
theorem wp_iinc_0 {x v : Int32} {j : Int} (d : St y pc (.iinc 0 j) 3 n) (hv : x + Int32.ofInt j = v) (hi : 0 < y.2.2.1) (k : WP κ r y n (some (.int v) :: L) st w ct Q) : WP κ r y pc (some (.int x) :: L) st w ct Q := by
  obtain ⟨hd, rfl⟩ := d
  intro p e R s m args below meth c H locs ls C hl hH hS
  obtain ⟨q, hq⟩ := List.getElem?_of_mem (lvA_mem (L := some (.int x) :: L) (i := 0) (v := .int x) rfl)
  exact lv_iinc (i := 0) (k := q) C.1 C.2.1 hd hl hq hv hi rfl (fun ls' hl' => k p e R s m args below meth c H locs ls' C (lvL_set (L := some (.int x) :: L) (i := 0) hl' (fun u h1 h2 => absurd h1 (by omega)) (by simp)) hH hS)
theorem wp_iinc_1 {x v : Int32} {j : Int} {o0 : Option Value} (d : St y pc (.iinc 1 j) 3 n) (hv : x + Int32.ofInt j = v) (hi : 1 < y.2.2.1) (hc : lcat o0 = true) (k : WP κ r y n (o0 :: some (.int v) :: L) st w ct Q) : WP κ r y pc (o0 :: some (.int x) :: L) st w ct Q := by
  obtain ⟨hd, rfl⟩ := d
  intro p e R s m args below meth c H locs ls C hl hH hS
  obtain ⟨q, hq⟩ := List.getElem?_of_mem (lvA_mem (L := o0 :: some (.int x) :: L) (i := 1) (v := .int x) rfl)
  exact lv_iinc (i := 1) (k := q) C.1 C.2.1 hd hl hq hv hi rfl (fun ls' hl' => k p e R s m args below meth c H locs ls' C (lvL_set (L := o0 :: some (.int x) :: L) (i := 1) hl' (fun u h1 h2 => lcat_of hc (by simpa using h2)) (by simp)) hH hS)
theorem wp_iinc_2 {x v : Int32} {j : Int} {o0 : Option Value} {o1 : Option Value} (d : St y pc (.iinc 2 j) 3 n) (hv : x + Int32.ofInt j = v) (hi : 2 < y.2.2.1) (hc : lcat o1 = true) (k : WP κ r y n (o0 :: o1 :: some (.int v) :: L) st w ct Q) : WP κ r y pc (o0 :: o1 :: some (.int x) :: L) st w ct Q := by
  obtain ⟨hd, rfl⟩ := d
  intro p e R s m args below meth c H locs ls C hl hH hS
  obtain ⟨q, hq⟩ := List.getElem?_of_mem (lvA_mem (L := o0 :: o1 :: some (.int x) :: L) (i := 2) (v := .int x) rfl)
  exact lv_iinc (i := 2) (k := q) C.1 C.2.1 hd hl hq hv hi rfl (fun ls' hl' => k p e R s m args below meth c H locs ls' C (lvL_set (L := o0 :: o1 :: some (.int x) :: L) (i := 2) hl' (fun u h1 h2 => lcat_of hc (by simpa using h2)) (by simp)) hH hS)
theorem wp_iinc_3 {x v : Int32} {j : Int} {o0 : Option Value} {o1 : Option Value} {o2 : Option Value} (d : St y pc (.iinc 3 j) 3 n) (hv : x + Int32.ofInt j = v) (hi : 3 < y.2.2.1) (hc : lcat o2 = true) (k : WP κ r y n (o0 :: o1 :: o2 :: some (.int v) :: L) st w ct Q) : WP κ r y pc (o0 :: o1 :: o2 :: some (.int x) :: L) st w ct Q := by
  obtain ⟨hd, rfl⟩ := d
  intro p e R s m args below meth c H locs ls C hl hH hS
  obtain ⟨q, hq⟩ := List.getElem?_of_mem (lvA_mem (L := o0 :: o1 :: o2 :: some (.int x) :: L) (i := 3) (v := .int x) rfl)
  exact lv_iinc (i := 3) (k := q) C.1 C.2.1 hd hl hq hv hi rfl (fun ls' hl' => k p e R s m args below meth c H locs ls' C (lvL_set (L := o0 :: o1 :: o2 :: some (.int x) :: L) (i := 3) hl' (fun u h1 h2 => lcat_of hc (by simpa using h2)) (by simp)) hH hS)
theorem wp_iinc_4 {x v : Int32} {j : Int} {o0 : Option Value} {o1 : Option Value} {o2 : Option Value} {o3 : Option Value} (d : St y pc (.iinc 4 j) 3 n) (hv : x + Int32.ofInt j = v) (hi : 4 < y.2.2.1) (hc : lcat o3 = true) (k : WP κ r y n (o0 :: o1 :: o2 :: o3 :: some (.int v) :: L) st w ct Q) : WP κ r y pc (o0 :: o1 :: o2 :: o3 :: some (.int x) :: L) st w ct Q := by
  obtain ⟨hd, rfl⟩ := d
  intro p e R s m args below meth c H locs ls C hl hH hS
  obtain ⟨q, hq⟩ := List.getElem?_of_mem (lvA_mem (L := o0 :: o1 :: o2 :: o3 :: some (.int x) :: L) (i := 4) (v := .int x) rfl)
  exact lv_iinc (i := 4) (k := q) C.1 C.2.1 hd hl hq hv hi rfl (fun ls' hl' => k p e R s m args below meth c H locs ls' C (lvL_set (L := o0 :: o1 :: o2 :: o3 :: some (.int x) :: L) (i := 4) hl' (fun u h1 h2 => lcat_of hc (by simpa using h2)) (by simp)) hH hS)
theorem wp_iinc_5 {x v : Int32} {j : Int} {o0 : Option Value} {o1 : Option Value} {o2 : Option Value} {o3 : Option Value} {o4 : Option Value} (d : St y pc (.iinc 5 j) 3 n) (hv : x + Int32.ofInt j = v) (hi : 5 < y.2.2.1) (hc : lcat o4 = true) (k : WP κ r y n (o0 :: o1 :: o2 :: o3 :: o4 :: some (.int v) :: L) st w ct Q) : WP κ r y pc (o0 :: o1 :: o2 :: o3 :: o4 :: some (.int x) :: L) st w ct Q := by
  obtain ⟨hd, rfl⟩ := d
  intro p e R s m args below meth c H locs ls C hl hH hS
  obtain ⟨q, hq⟩ := List.getElem?_of_mem (lvA_mem (L := o0 :: o1 :: o2 :: o3 :: o4 :: some (.int x) :: L) (i := 5) (v := .int x) rfl)
  exact lv_iinc (i := 5) (k := q) C.1 C.2.1 hd hl hq hv hi rfl (fun ls' hl' => k p e R s m args below meth c H locs ls' C (lvL_set (L := o0 :: o1 :: o2 :: o3 :: o4 :: some (.int x) :: L) (i := 5) hl' (fun u h1 h2 => lcat_of hc (by simpa using h2)) (by simp)) hH hS)
theorem wp_iinc_6 {x v : Int32} {j : Int} {o0 : Option Value} {o1 : Option Value} {o2 : Option Value} {o3 : Option Value} {o4 : Option Value} {o5 : Option Value} (d : St y pc (.iinc 6 j) 3 n) (hv : x + Int32.ofInt j = v) (hi : 6 < y.2.2.1) (hc : lcat o5 = true) (k : WP κ r y n (o0 :: o1 :: o2 :: o3 :: o4 :: o5 :: some (.int v) :: L) st w ct Q) : WP κ r y pc (o0 :: o1 :: o2 :: o3 :: o4 :: o5 :: some (.int x) :: L) st w ct Q := by
  obtain ⟨hd, rfl⟩ := d
  intro p e R s m args below meth c H locs ls C hl hH hS
  obtain ⟨q, hq⟩ := List.getElem?_of_mem (lvA_mem (L := o0 :: o1 :: o2 :: o3 :: o4 :: o5 :: some (.int x) :: L) (i := 6) (v := .int x) rfl)
  exact lv_iinc (i := 6) (k := q) C.1 C.2.1 hd hl hq hv hi rfl (fun ls' hl' => k p e R s m args below meth c H locs ls' C (lvL_set (L := o0 :: o1 :: o2 :: o3 :: o4 :: o5 :: some (.int x) :: L) (i := 6) hl' (fun u h1 h2 => lcat_of hc (by simpa using h2)) (by simp)) hH hS)
theorem wp_iinc_7 {x v : Int32} {j : Int} {o0 : Option Value} {o1 : Option Value} {o2 : Option Value} {o3 : Option Value} {o4 : Option Value} {o5 : Option Value} {o6 : Option Value} (d : St y pc (.iinc 7 j) 3 n) (hv : x + Int32.ofInt j = v) (hi : 7 < y.2.2.1) (hc : lcat o6 = true) (k : WP κ r y n (o0 :: o1 :: o2 :: o3 :: o4 :: o5 :: o6 :: some (.int v) :: L) st w ct Q) : WP κ r y pc (o0 :: o1 :: o2 :: o3 :: o4 :: o5 :: o6 :: some (.int x) :: L) st w ct Q := by
  obtain ⟨hd, rfl⟩ := d
  intro p e R s m args below meth c H locs ls C hl hH hS
  obtain ⟨q, hq⟩ := List.getElem?_of_mem (lvA_mem (L := o0 :: o1 :: o2 :: o3 :: o4 :: o5 :: o6 :: some (.int x) :: L) (i := 7) (v := .int x) rfl)
  exact lv_iinc (i := 7) (k := q) C.1 C.2.1 hd hl hq hv hi rfl (fun ls' hl' => k p e R s m args below meth c H locs ls' C (lvL_set (L := o0 :: o1 :: o2 :: o3 :: o4 :: o5 :: o6 :: some (.int x) :: L) (i := 7) hl' (fun u h1 h2 => lcat_of hc (by simpa using h2)) (by simp)) hH hS)
theorem wp_iinc_8 {x v : Int32} {j : Int} {o0 : Option Value} {o1 : Option Value} {o2 : Option Value} {o3 : Option Value} {o4 : Option Value} {o5 : Option Value} {o6 : Option Value} {o7 : Option Value} (d : St y pc (.iinc 8 j) 3 n) (hv : x + Int32.ofInt j = v) (hi : 8 < y.2.2.1) (hc : lcat o7 = true) (k : WP κ r y n (o0 :: o1 :: o2 :: o3 :: o4 :: o5 :: o6 :: o7 :: some (.int v) :: L) st w ct Q) : WP κ r y pc (o0 :: o1 :: o2 :: o3 :: o4 :: o5 :: o6 :: o7 :: some (.int x) :: L) st w ct Q := by
  obtain ⟨hd, rfl⟩ := d
  intro p e R s m args below meth c H locs ls C hl hH hS
  obtain ⟨q, hq⟩ := List.getElem?_of_mem (lvA_mem (L := o0 :: o1 :: o2 :: o3 :: o4 :: o5 :: o6 :: o7 :: some (.int x) :: L) (i := 8) (v := .int x) rfl)
  exact lv_iinc (i := 8) (k := q) C.1 C.2.1 hd hl hq hv hi rfl (fun ls' hl' => k p e R s m args below meth c H locs ls' C (lvL_set (L := o0 :: o1 :: o2 :: o3 :: o4 :: o5 :: o6 :: o7 :: some (.int x) :: L) (i := 8) hl' (fun u h1 h2 => lcat_of hc (by simpa using h2)) (by simp)) hH hS)
theorem wp_iinc_9 {x v : Int32} {j : Int} {o0 : Option Value} {o1 : Option Value} {o2 : Option Value} {o3 : Option Value} {o4 : Option Value} {o5 : Option Value} {o6 : Option Value} {o7 : Option Value} {o8 : Option Value} (d : St y pc (.iinc 9 j) 3 n) (hv : x + Int32.ofInt j = v) (hi : 9 < y.2.2.1) (hc : lcat o8 = true) (k : WP κ r y n (o0 :: o1 :: o2 :: o3 :: o4 :: o5 :: o6 :: o7 :: o8 :: some (.int v) :: L) st w ct Q) : WP κ r y pc (o0 :: o1 :: o2 :: o3 :: o4 :: o5 :: o6 :: o7 :: o8 :: some (.int x) :: L) st w ct Q := by
  obtain ⟨hd, rfl⟩ := d
  intro p e R s m args below meth c H locs ls C hl hH hS
  obtain ⟨q, hq⟩ := List.getElem?_of_mem (lvA_mem (L := o0 :: o1 :: o2 :: o3 :: o4 :: o5 :: o6 :: o7 :: o8 :: some (.int x) :: L) (i := 9) (v := .int x) rfl)
  exact lv_iinc (i := 9) (k := q) C.1 C.2.1 hd hl hq hv hi rfl (fun ls' hl' => k p e R s m args below meth c H locs ls' C (lvL_set (L := o0 :: o1 :: o2 :: o3 :: o4 :: o5 :: o6 :: o7 :: o8 :: some (.int x) :: L) (i := 9) hl' (fun u h1 h2 => lcat_of hc (by simpa using h2)) (by simp)) hH hS)
theorem wp_drop_0 {oo : Option Value} (k : WP κ r y pc (none :: L) st w ct Q) : WP κ r y pc (oo :: L) st w ct Q := by
  intro p e R s m args below meth c H locs ls C hl hH hS
  exact k p e R s m args below meth c H locs ls C (lvL_none (L := oo :: L) (i := 0) hl) hH hS
theorem wp_drop_1 {oo : Option Value} {o0 : Option Value} (k : WP κ r y pc (o0 :: none :: L) st w ct Q) : WP κ r y pc (o0 :: oo :: L) st w ct Q := by
  intro p e R s m args below meth c H locs ls C hl hH hS
  exact k p e R s m args below meth c H locs ls C (lvL_none (L := o0 :: oo :: L) (i := 1) hl) hH hS
theorem wp_drop_2 {oo : Option Value} {o0 : Option Value} {o1 : Option Value} (k : WP κ r y pc (o0 :: o1 :: none :: L) st w ct Q) : WP κ r y pc (o0 :: o1 :: oo :: L) st w ct Q := by
  intro p e R s m args below meth c H locs ls C hl hH hS
  exact k p e R s m args below meth c H locs ls C (lvL_none (L := o0 :: o1 :: oo :: L) (i := 2) hl) hH hS
theorem wp_drop_3 {oo : Option Value} {o0 : Option Value} {o1 : Option Value} {o2 : Option Value} (k : WP κ r y pc (o0 :: o1 :: o2 :: none :: L) st w ct Q) : WP κ r y pc (o0 :: o1 :: o2 :: oo :: L) st w ct Q := by
  intro p e R s m args below meth c H locs ls C hl hH hS
  exact k p e R s m args below meth c H locs ls C (lvL_none (L := o0 :: o1 :: o2 :: oo :: L) (i := 3) hl) hH hS
theorem wp_drop_4 {oo : Option Value} {o0 : Option Value} {o1 : Option Value} {o2 : Option Value} {o3 : Option Value} (k : WP κ r y pc (o0 :: o1 :: o2 :: o3 :: none :: L) st w ct Q) : WP κ r y pc (o0 :: o1 :: o2 :: o3 :: oo :: L) st w ct Q := by
  intro p e R s m args below meth c H locs ls C hl hH hS
  exact k p e R s m args below meth c H locs ls C (lvL_none (L := o0 :: o1 :: o2 :: o3 :: oo :: L) (i := 4) hl) hH hS
theorem wp_drop_5 {oo : Option Value} {o0 : Option Value} {o1 : Option Value} {o2 : Option Value} {o3 : Option Value} {o4 : Option Value} (k : WP κ r y pc (o0 :: o1 :: o2 :: o3 :: o4 :: none :: L) st w ct Q) : WP κ r y pc (o0 :: o1 :: o2 :: o3 :: o4 :: oo :: L) st w ct Q := by
  intro p e R s m args below meth c H locs ls C hl hH hS
  exact k p e R s m args below meth c H locs ls C (lvL_none (L := o0 :: o1 :: o2 :: o3 :: o4 :: oo :: L) (i := 5) hl) hH hS
theorem wp_drop_6 {oo : Option Value} {o0 : Option Value} {o1 : Option Value} {o2 : Option Value} {o3 : Option Value} {o4 : Option Value} {o5 : Option Value} (k : WP κ r y pc (o0 :: o1 :: o2 :: o3 :: o4 :: o5 :: none :: L) st w ct Q) : WP κ r y pc (o0 :: o1 :: o2 :: o3 :: o4 :: o5 :: oo :: L) st w ct Q := by
  intro p e R s m args below meth c H locs ls C hl hH hS
  exact k p e R s m args below meth c H locs ls C (lvL_none (L := o0 :: o1 :: o2 :: o3 :: o4 :: o5 :: oo :: L) (i := 6) hl) hH hS
theorem wp_drop_7 {oo : Option Value} {o0 : Option Value} {o1 : Option Value} {o2 : Option Value} {o3 : Option Value} {o4 : Option Value} {o5 : Option Value} {o6 : Option Value} (k : WP κ r y pc (o0 :: o1 :: o2 :: o3 :: o4 :: o5 :: o6 :: none :: L) st w ct Q) : WP κ r y pc (o0 :: o1 :: o2 :: o3 :: o4 :: o5 :: o6 :: oo :: L) st w ct Q := by
  intro p e R s m args below meth c H locs ls C hl hH hS
  exact k p e R s m args below meth c H locs ls C (lvL_none (L := o0 :: o1 :: o2 :: o3 :: o4 :: o5 :: o6 :: oo :: L) (i := 7) hl) hH hS
theorem wp_drop_8 {oo : Option Value} {o0 : Option Value} {o1 : Option Value} {o2 : Option Value} {o3 : Option Value} {o4 : Option Value} {o5 : Option Value} {o6 : Option Value} {o7 : Option Value} (k : WP κ r y pc (o0 :: o1 :: o2 :: o3 :: o4 :: o5 :: o6 :: o7 :: none :: L) st w ct Q) : WP κ r y pc (o0 :: o1 :: o2 :: o3 :: o4 :: o5 :: o6 :: o7 :: oo :: L) st w ct Q := by
  intro p e R s m args below meth c H locs ls C hl hH hS
  exact k p e R s m args below meth c H locs ls C (lvL_none (L := o0 :: o1 :: o2 :: o3 :: o4 :: o5 :: o6 :: o7 :: oo :: L) (i := 8) hl) hH hS
theorem wp_drop_9 {oo : Option Value} {o0 : Option Value} {o1 : Option Value} {o2 : Option Value} {o3 : Option Value} {o4 : Option Value} {o5 : Option Value} {o6 : Option Value} {o7 : Option Value} {o8 : Option Value} (k : WP κ r y pc (o0 :: o1 :: o2 :: o3 :: o4 :: o5 :: o6 :: o7 :: o8 :: none :: L) st w ct Q) : WP κ r y pc (o0 :: o1 :: o2 :: o3 :: o4 :: o5 :: o6 :: o7 :: o8 :: oo :: L) st w ct Q := by
  intro p e R s m args below meth c H locs ls C hl hH hS
  exact k p e R s m args below meth c H locs ls C (lvL_none (L := o0 :: o1 :: o2 :: o3 :: o4 :: o5 :: o6 :: o7 :: o8 :: oo :: L) (i := 9) hl) hH hS
theorem wp_switch {dflt lo hi : Int} {offs : Array Int} {len : Nat} {x : Int32} (d : St y pc (.tableswitch dflt lo hi offs) len n) (tgt : Nat) (ht : (pc : Int) + (if x.toInt < lo ∨ hi < x.toInt then dflt else offs.getD (x.toInt - lo).toNat 0) = (tgt : Int)) (hlo : ¬ (x.toInt < lo ∨ hi < x.toInt) → (x.toInt - lo).toNat < offs.size) (k : WP κ r y tgt L st w ct Q) : WP κ r y pc L (.int x :: st) w ct Q := by
  obtain ⟨hd, -⟩ := d
  intro p e R s m args below meth c H locs ls C hl hH hS
  by_cases h : x.toInt < lo ∨ hi < x.toInt
  · rw [if_pos h] at ht
    exact lv_tableOut C.1 C.2.1 hd h ht (k p e R s m args below meth c H locs ls C hl hH hS)
  · rw [if_neg h] at ht
    have h2 := hlo h
    exact lv_tableIn C.1 C.2.1 hd (fun q => h (Or.inl q)) (fun q => h (Or.inr q)) (off := offs.getD (x.toInt - lo).toNat 0) (by simp [Array.getD, h2]) ht (k p e R s m args below meth c H locs ls C hl hH hS)
theorem wp_ret_q {v : Option Value} (hc : ct.1 = r.2.1 ∧ ct.2 = r.2.2) (hq : Q v w) {p : Program} {R : Room} {s : State} {m : MethodId} {args : Array Value} {meth : Method} {c : Code} {H : Heap} {locs : List Loc} (C : Cx κ r y p R s m args meth c) (hH : HW κ w H) (hS : va_S (kA κ) s.heap H locs) : ∀ t : State, t.heap = H → s.WarmedH t.vm → QW κ Q args s (.returned v) t := by
  intro t ht hW
  refine ⟨⟨v, w, rfl, hq, by rw [ht]; exact hH⟩, hS.F ht⟩
theorem wp_iret {v : Int32} (d : St y pc (.ireturn) 1 n) (hr : y.2.2.2 = some .int) (hc : ct = r.2) (hq : Q (some (.int v)) w) : WP κ r y pc L [.int v] w ct Q := by
  obtain ⟨hd, -⟩ := d
  subst hc
  intro p e R s m args below meth c H locs ls C hl hH hS
  exact W.iret C.1 C.2.1 (C.2.2.2.2.2.2.1.trans hr) (wp_ret_q ⟨rfl, rfl⟩ hq C hH hS) hS.2.2 hd C.2.2.2.2.2.2.2.1
theorem wp_zret {v : Int32} {ty : FieldType} (d : St y pc (.ireturn) 1 n) (hr : y.2.2.2 = some ty) (hn : narrow ty (.int v) = .int v) (hc : ct = r.2) (hq : Q (some (.int v)) w) : WP κ r y pc L [.int v] w ct Q := by
  obtain ⟨hd, -⟩ := d
  subst hc
  intro p e R s m args below meth c H locs ls C hl hH hS
  exact W.zret C.1 C.2.1 (C.2.2.2.2.2.2.1.trans hr) hn (wp_ret_q ⟨rfl, rfl⟩ hq C hH hS) hS.2.2 hd C.2.2.2.2.2.2.2.1
theorem wp_lret {v : Int64} (d : St y pc (.lreturn) 1 n) (hr : y.2.2.2 = some .long) (hc : ct = r.2) (hq : Q (some (.long v)) w) : WP κ r y pc L [.long v] w ct Q := by
  obtain ⟨hd, -⟩ := d
  subst hc
  intro p e R s m args below meth c H locs ls C hl hH hS
  exact W.lret C.1 C.2.1 (C.2.2.2.2.2.2.1.trans hr) (wp_ret_q ⟨rfl, rfl⟩ hq C hH hS) hS.2.2 hd C.2.2.2.2.2.2.2.1
theorem wp_vret (d : St y pc (.return_) 1 n) (hr : y.2.2.2 = none) (hc : ct = r.2) (hq : Q none w) : WP κ r y pc L [] w ct Q := by
  obtain ⟨hd, -⟩ := d
  subst hc
  intro p e R s m args below meth c H locs ls C hl hH hS
  exact W.vret C.1 C.2.1 (C.2.2.2.2.2.2.1.trans hr) (wp_ret_q ⟨rfl, rfl⟩ hq C hH hS) hS.2.2 hd C.2.2.2.2.2.2.2.1
end WPR
end
section
/-! THE WORLD of the two objects: 129 cells at the addresses ka; references never change, numbers are M -/
abbrev MM : Type := (Nat → Nat → Int32) × (Nat → Nat → Int64)
def kdB : List Nat := [4, 10, 10, 3, 10, 10, 10, 10, 1, 13, 3, 10, 10, 10, 10, 3, 10, 10, 10, 10, 3, 10, 10, 10, 10, 3, 10, 10, 10, 10, 3, 10, 10, 10, 10, 3, 10, 10, 10, 10, 3, 10, 10, 10, 10, 3, 10, 10, 10, 10]
def lnB : List Nat := [0, 6, 6, 0, 5, 5, 5, 6, 0, 8, 0, 5, 5, 5, 6, 0, 5, 5, 5, 6, 0, 5, 5, 5, 6, 0, 5, 5, 5, 6, 0, 5, 5, 5, 6, 0, 5, 5, 5, 6, 0, 5, 5, 5, 6, 0, 5, 5, 5, 6]
def kdT : List Nat := [0, 10, 10, 10, 10, 5, 11, 10, 10, 10, 14, 2, 12, 2, 12, 2, 12, 2, 12, 7, 10, 10, 10, 10, 10, 10, 10, 12]
def lnT : List Nat := [0, 5, 5, 5, 5, 0, 60, 6, 6, 5, 4, 0, 24, 0, 24, 0, 24, 0, 24, 0, 223, 223, 223, 223, 60, 4, 4, 96]
/-- the kind of a cell: below 8 an object of that class; 10 ints, 11 chars, 12 longs, 13 Standings, 14 Sheets -/
def kd (k : Nat) : Nat := (6 :: (kdB ++ (kdB ++ kdT))).getD k 99
def ln (k : Nat) : Nat := (0 :: (lnB ++ (lnB ++ lnT))).getD k 0
def nfc (c : Nat) : Nat := [5, 3, 4, 6, 7, 8, 6, 13].getD c 0
def isR (c j : Nat) : Bool := ([[true, true, true, true, true], [true, false, false], [true, false, false, false], [true, true, true, true, false, false], [true, true, false, false, false, true, true], [true, false, true, true, true, false, false, false], [true, true, false, true, true, true], [true, true, true, true, false, true, false, true, true, true, false, false, false]].getD c []).getD j false
/-- what a reference points at -/
def rf (k j : Nat) : Nat := match kd k with
  | 3 => k + 1 + j
  | 2 => k + 1
  | 4 => k + [1, 2, 0, 0, 0, 3, 8].getD j 0
  | 1 => k + 1
  | 13 => k + 1 + 5 * j
  | 14 => k + 1 + 2 * j
  | 0 => if j = 0 then 1 else k + j
  | 5 => k + [1, 0, 2, 3, 4].getD j 0
  | 6 => [1, 51, 0, 101, 106, 111].getD j 0
  | _ => k + [1, 2, 3, 4, 0, 5, 0, 6, 7, 8].getD j 0
def rv (κ : KX) (k : Nat) : Value := .ref (ka κ k)
def fv (κ : KX) (M : MM) (k j : Nat) : Value := if isR (kd k) j = true then .ref (ka κ (rf k j)) else .int (M.1 k j)
def ceq (κ : KX) (M : MM) (k : Nat) : va_E :=
  if kd k < 8 then .inr (kd k, (List.range (nfc (kd k))).map (fv κ M k))
  else if kd k = 10 then .inl (kc κ 0, ln k, .inl (M.1 k))
  else if kd k = 11 then .inl (kc κ 1, ln k, .inl (M.1 k))
  else if kd k = 12 then .inl (kc κ 2, ln k, .inr (.inl (M.2 k)))
  else if kd k = 13 then .inl (kc κ 3, ln k, .inr (.inr (.inr (.inr fun j => some (ka κ (rf k j))))))
  else .inl (kc κ 4, ln k, .inr (.inr (.inr (.inr fun j => some (ka κ (rf k j))))))
def wM (κ : KX) (M : MM) : va_W := (List.range 129).map fun k => (ka κ k, ceq κ M k)
theorem wM_len (κ : KX) (M : MM) : (wM κ M).length = 129 := by simp [wM]
theorem wM_at (κ : KX) (M : MM) {k : Nat} (h : k < 129) : (wM κ M)[k]? = some (ka κ k, ceq κ M k) := by
  simp [wM, h]
theorem wM_set {κ : KX} {M M' : MM} {k : Nat} {e : va_E} (he : e = ceq κ M' k) (h : ∀ j, j ≠ k → ceq κ M' j = ceq κ M j) : (wM κ M).set k (ka κ k, e) = wM κ M' := by
  subst he
  apply List.ext_getElem?
  intro j
  by_cases hj : j = k
  · subst hj
    by_cases hl : j < 129
    · rw [List.getElem?_set_self (by rw [wM_len]; exact hl), wM_at κ M' hl]
    · rw [List.getElem?_eq_none (by rw [List.length_set, wM_len]; omega), List.getElem?_eq_none (by rw [wM_len]; omega)]
  · rw [List.getElem?_set_ne (fun z => hj z.symm)]
    by_cases hl : j < 129
    · rw [wM_at κ M hl, wM_at κ M' hl, h j hj]
    · rw [List.getElem?_eq_none (by rw [wM_len]; omega), List.getElem?_eq_none (by rw [wM_len]; omega)]
theorem kd_lt {k c : Nat} (h : kd k = c) (hc : c < 99) : k < 129 := by
  by_cases hk : k < 129
  · exact hk
  · have hz : kd k = 99 := by
      have h2 : 129 ≤ k := by omega
      unfold kd
      rw [List.getD_eq_getElem?_getD, List.getElem?_eq_none (by simp [kdB, kdT]; omega)]
      rfl
    omega
/-- writing: an int (field or element), a long element, a whole row of ints, of longs -/
def sI (M : MM) (k j : Nat) (v : Int32) : MM := (fun a => if a = k then upd (M.1 k) j v else M.1 a, M.2)
def sL (M : MM) (k j : Nat) (v : Int64) : MM := (M.1, fun a => if a = k then vp_updL (M.2 k) j v else M.2 a)
def rI (M : MM) (k : Nat) (f : Nat → Int32) : MM := (fun a => if a = k then f else M.1 a, M.2)
def rL (M : MM) (k : Nat) (f : Nat → Int64) : MM := (M.1, fun a => if a = k then f else M.2 a)
theorem ceq_congr {κ : KX} {M M' : MM} {k : Nat} (h1 : M'.1 k = M.1 k) (h2 : M'.2 k = M.2 k) : ceq κ M' k = ceq κ M k := by
  have h3 : fv κ M' k = fv κ M k := by
    funext j
    simp [fv, h1]
  unfold ceq
  rw [h1, h2, h3]
/-- the heap behind a write -/
theorem HW.put {κ : KX} {w : va_W} {H1 : Heap} {q0 a : Nat} {e : va_E} {s0 : Heap} (hb : kb κ ≤ s0.size) (ho : ∀ q, q < kb κ → s0[q]? = (kH κ)[q]?) {locs1 : List Loc} (hP : va_P (kD κ) vwCl (w.set q0 (a, e)) H1) (hD : va_D (kA κ) (w.set q0 (a, e))) (hS : va_S (kA κ) s0 H1 locs1) : HW κ (w.set q0 (a, e)) H1 := by
  refine ⟨hP, hD, Nat.le_trans hb hS.1, fun q hq => ?_⟩
  rw [hS.2.1 q (Nat.lt_of_lt_of_le hq hb) (fun z => absurd z (Nat.not_le.mpr hq))]
  exact ho q hq
theorem HW.to {κ : KX} {M M' : MM} {k : Nat} {e : va_E} {H1 : Heap} (h : HW κ ((wM κ M).set k (ka κ k, e)) H1) (he : e = ceq κ M' k) (ho : ∀ j, j ≠ k → ceq κ M' j = ceq κ M j) : HW κ (wM κ M') H1 := by
  rw [wM_set he ho] at h
  exact h
/-- what is so of every class of the world -/
def CLok (c : Nat) (q : vw_C) : Prop := (∀ w ∈ u_ws q.1 q.2.1 q.2.2, w ∈ TB) ∧ (∃ ty : Nat → FieldType, ∀ k, k < q.2.2 → parseFieldDescriptor (q.2.1 k).2.2.1 = some (ty k)) ∧ (∀ a, a < q.2.2 → ∀ b, b < q.2.2 → a ≠ b → (q.2.1 a).2.1 ≠ (q.2.1 b).2.1) ∧ q.2.2 = nfc c
theorem cl_ok {c : Nat} {q : vw_C} (h : vwCl[c]? = some q) : c < 8 ∧ CLok c q := by
  match c, h with
  | 0, h => cases h; exact ⟨by decide, laX0, ⟨tyX0, tyX0_ok⟩, nmX0, rfl⟩
  | 1, h => cases h; exact ⟨by decide, laX1, ⟨tyX1, tyX1_ok⟩, nmX1, rfl⟩
  | 2, h => cases h; exact ⟨by decide, laX2, ⟨tyX2, tyX2_ok⟩, nmX2, rfl⟩
  | 3, h => cases h; exact ⟨by decide, laX3, ⟨tyX3, tyX3_ok⟩, nmX3, rfl⟩
  | 4, h => cases h; exact ⟨by decide, laX4, ⟨tyX4, tyX4_ok⟩, nmX4, rfl⟩
  | 5, h => cases h; exact ⟨by decide, laX5, ⟨tyX5, tyX5_ok⟩, nmX5, rfl⟩
  | 6, h => cases h; exact ⟨by decide, laX6, ⟨tyX6, tyX6_ok⟩, nmX6, rfl⟩
  | 7, h => cases h; exact ⟨by decide, laX7, ⟨tyX7, tyX7_ok⟩, nmX7, rfl⟩
  | c + 8, h => simp [vwCl] at h
/-- fields that are written outside a constructor: 1 ints, 2 booleans -/
def fty (c j : Nat) : Nat := ([[], [0, 1, 1], [0, 2, 1, 1], [0, 0, 0, 0, 1, 1], [0, 0, 1, 1, 1, 0, 0], [0, 1, 0, 0, 0, 1, 1, 1], [0, 0, 2, 0, 0, 0], [0, 0, 0, 0, 2, 0, 1, 0, 0, 0, 1, 1, 2]].getD c []).getD j 0
theorem fty_all : ∀ c, c < 8 → ∀ j, j < nfc c → (fty c j = 1 → ((vwCl.getD c (RX0, TX0, 5)).2.1 j).2.2.2 = false ∧ parseFieldDescriptor ((vwCl.getD c (RX0, TX0, 5)).2.1 j).2.2.1 = some .int) ∧ (fty c j = 2 → ((vwCl.getD c (RX0, TX0, 5)).2.1 j).2.2.2 = false ∧ parseFieldDescriptor ((vwCl.getD c (RX0, TX0, 5)).2.1 j).2.2.1 = some .boolean) := by decide +kernel
theorem fty_at {c j : Nat} {q : vw_C} (h : vwCl[c]? = some q) (hj : j < q.2.2) : (fty c j = 1 → (q.2.1 j).2.2.2 = false ∧ parseFieldDescriptor (q.2.1 j).2.2.1 = some .int) ∧ (fty c j = 2 → (q.2.1 j).2.2.2 = false ∧ parseFieldDescriptor (q.2.1 j).2.2.1 = some .boolean) := by
  obtain ⟨hc, -, -, -, hn⟩ := cl_ok h
  have h2 := fty_all c hc j (by rw [← hn]; exact hj)
  rw [List.getD_eq_getElem?_getD, h] at h2
  exact h2
theorem ceq_obj {κ : KX} {M : MM} {k c : Nat} (h : kd k = c) (hc : c < 8) : ceq κ M k = .inr (c, (List.range (nfc c)).map (fv κ M k)) := by
  unfold ceq
  rw [if_pos (by omega), h]
theorem fv_int {κ : KX} {M : MM} {k j c : Nat} (h : kd k = c) (hr : isR c j = false) : fv κ M k j = .int (M.1 k j) := by simp [fv, h, hr]
theorem fv_ref {κ : KX} {M : MM} {k j c : Nat} (h : kd k = c) (hr : isR c j = true) : fv κ M k j = rv κ (rf k j) := by simp [fv, h, hr, rv]
theorem sI_fs {κ : KX} {M : MM} {k j c : Nat} {v : Int32} (h : kd k = c) (hj : j < nfc c) (hr : isR c j = false) : ((List.range (nfc c)).map (fv κ M k)).set j (.int v) = (List.range (nfc c)).map (fv κ (sI M k j v) k) := by
  apply List.ext_getElem?
  intro i
  by_cases hi : i = j
  · subst hi
    rw [List.getElem?_set_self (by simpa using hj)]
    simp [hj, fv, h, hr, sI, upd]
  · rw [List.getElem?_set_ne (fun z => hi z.symm)]
    simp only [List.getElem?_map]
    cases hx : (List.range (nfc c))[i]? with
    | none => rfl
    | some z =>
      have hz : z = i := by
        have h3 := (List.getElem?_eq_some_iff.mp hx).2
        simpa using h3.symm
      subst hz
      simp [fv, sI, upd, hi]
section WPM
variable {κ : KX} {r : RM} {y : MD} {pc n : Nat} {L : List (Option Value)} {st : List Value} {M : MM} {ct : Nat × Nat} {Q : Option Value → va_W → Prop}
theorem wp_getf {i c j k : Nat} (f : FL y.1.cls i c j) (d : St y pc (.getfield i) 3 n) (hc : kd k = c) (kk : WP κ r y n L (fv κ M k j :: st) (wM κ M) ct Q) : WP κ r y pc L (rv κ k :: st) (wM κ M) ct Q := by
  obtain ⟨hd, rfl⟩ := d
  obtain ⟨q, hq, hj, hf⟩ := f
  obtain ⟨h8, hw, ⟨ty, hty⟩, hnm, hn⟩ := cl_ok hq
  obtain ⟨qC, qT, qN⟩ := q
  intro p e R s m args below meth cd H locs ls C hl hH hS
  refine va_get (C := qC) (T := qT) (N := qN) (ci := c) (ref := (qT j).1) (fs := (List.range (nfc c)).map (fv κ M k)) C.1 C.2.1 C.2.2.2.2.1 hw C.2.2.2.1 C.2.2.2.2.2.2.2.2.2.1.1 hH.1 k ?_ hq j hj (C.2.2.2.2.1 _ hf) (fun _ h => h) (v := fv κ M k j) ?_ hd (kk p e R s m args below meth cd H locs ls C hl hH hS)
  · rw [wM_at κ M (kd_lt hc (by omega)), ceq_obj hc h8]
  · have hj2 : j < nfc c := by rw [← hn]; exact hj
    simp [hj2]
theorem wp_getI {i c j k : Nat} (f : FL y.1.cls i c j) (d : St y pc (.getfield i) 3 n) (hc : kd k = c) (hr : isR c j = false) (kk : WP κ r y n L (.int (M.1 k j) :: st) (wM κ M) ct Q) : WP κ r y pc L (rv κ k :: st) (wM κ M) ct Q :=
  wp_getf f d hc (by rw [fv_int hc hr]; exact kk)
theorem wp_getR {i c j k t : Nat} (f : FL y.1.cls i c j) (d : St y pc (.getfield i) 3 n) (hc : kd k = c) (hr : isR c j = true) (ht : rf k j = t) (kk : WP κ r y n L (rv κ t :: st) (wM κ M) ct Q) : WP κ r y pc L (rv κ k :: st) (wM κ M) ct Q :=
  wp_getf f d hc (by rw [fv_ref hc hr, ht]; exact kk)
theorem wp_put {i c j k : Nat} {v : Int32} {ty1 : FieldType} (f : FL y.1.cls i c j) (d : St y pc (.putfield i) 3 n) (hc : kd k = c) (hr : isR c j = false) (h1 : ∀ q : vw_C, vwCl[c]? = some q → j < q.2.2 → (q.2.1 j).2.2.2 = false ∧ parseFieldDescriptor (q.2.1 j).2.2.1 = some ty1) (hn1 : narrow ty1 (.int v) = .int v) (hf1 : fits ty1 (.int v) = true) (kk : WP κ r y n L st (wM κ (sI M k j v)) ct Q) : WP κ r y pc L (.int v :: rv κ k :: st) (wM κ M) ct Q := by
  obtain ⟨hd, rfl⟩ := d
  obtain ⟨q, hq, hj, hf⟩ := f
  obtain ⟨g1, g2⟩ := h1 q hq hj
  obtain ⟨h8, hw, ⟨ty, hty⟩, hnm, hn⟩ := cl_ok hq
  obtain ⟨qC, qT, qN⟩ := q
  intro p e R s m args below meth cd H locs ls C hl hH hS
  have hj2 : j < nfc c := by rw [← hn]; exact hj
  refine va_put (C := qC) (T := qT) (N := qN) (ci := c) (ref := (qT j).1) (fs := (List.range (nfc c)).map (fv κ M k)) C.1 C.2.1 C.2.2.2.2.1 hw ty hty hnm C.2.2.2.1 C.2.2.2.2.2.2.2.2.2.1.1 hH.1 hH.2.1 hS k ?_ hq j hj (C.2.2.2.2.1 _ hf) (fun _ h => h) g1 g2 hn1 hf1 (by simpa using hj2) hd (fun H1 locs1 hP hD hS1 => ?_)
  · rw [wM_at κ M (kd_lt hc (by omega)), ceq_obj hc h8]
  · have hH1 := HW.put C.2.2.2.2.2.2.2.2.2.2.1 C.2.2.2.2.2.2.2.2.2.2.2 hP hD hS1
    have hH1 := hH1.to (M' := sI M k j v) (by rw [ceq_obj hc h8, sI_fs hc hj2 hr]) (fun a ha => ceq_congr (by simp [sI, ha]) rfl)
    exact kk p e R s m args below meth cd H1 locs1 ls C hl hH1 hS1
theorem wp_putI {i c j k : Nat} {v : Int32} (f : FL y.1.cls i c j) (d : St y pc (.putfield i) 3 n) (hc : kd k = c) (hr : isR c j = false) (h1 : fty c j = 1) (kk : WP κ r y n L st (wM κ (sI M k j v)) ct Q) : WP κ r y pc L (.int v :: rv κ k :: st) (wM κ M) ct Q :=
  wp_put f d hc hr (fun q hq hj => (fty_at hq hj).1 h1) rfl rfl kk
theorem wp_putZ {i c j k : Nat} {v : Int32} (f : FL y.1.cls i c j) (d : St y pc (.putfield i) 3 n) (hc : kd k = c) (hr : isR c j = false) (h1 : fty c j = 2) (hv : narrow .boolean (.int v) = .int v) (hf : fits .boolean (.int v) = true) (kk : WP κ r y n L st (wM κ (sI M k j v)) ct Q) : WP κ r y pc L (.int v :: rv κ k :: st) (wM κ M) ct Q :=
  wp_put f d hc hr (fun q hq hj => (fty_at hq hj).2 h1) hv hf kk
theorem ln_lt : ∀ k, ln k < 1000 := by
  intro k
  by_cases h : k < 129
  · have h2 : ∀ k, k < 129 → ln k < 1000 := by decide +kernel
    exact h2 k h
  · unfold ln
    rw [List.getD_eq_getElem?_getD, List.getElem?_eq_none (by simp [lnB, lnT]; omega)]
    decide
theorem ix_in {x : Int32} {j k : Nat} (hx : x = nI j) (hj : j < ln k) : vp_in x (ln k) ∧ x.toNatClampNeg = j := by
  have h2 := ln_lt k
  subst hx
  exact ⟨vp_in_nI hj (by omega), nI_clamp (by omega)⟩
theorem wp_iald {k j : Nat} {x : Int32} (d : St y pc (.iaload) 1 n) (hc : kd k = 10) (hx : x = nI j) (hj : j < ln k) (kk : WP κ r y n L (.int (M.1 k j) :: st) (wM κ M) ct Q) : WP κ r y pc L (.int x :: rv κ k :: st) (wM κ M) ct Q := by
  obtain ⟨hd, rfl⟩ := d
  obtain ⟨hi, he⟩ := ix_in hx hj
  intro p e R s m args below meth cd H locs ls C hl hH hS
  refine va_iald (cA := kc κ 0) (n := ln k) (f := M.1 k) C.1 C.2.1 C.2.2.2.2.2.2.2.2.2.1.1 hH.1 k 0 ?_ rfl hi hd ?_
  · rw [wM_at κ M (kd_lt hc (by omega))]
    simp [ceq, hc]
  · rw [he]
    exact kk p e R s m args below meth cd H locs ls C hl hH hS
theorem wp_iast {k j : Nat} {x v : Int32} (d : St y pc (.iastore) 1 n) (hc : kd k = 10) (hx : x = nI j) (hj : j < ln k) (kk : WP κ r y n L st (wM κ (sI M k j v)) ct Q) : WP κ r y pc L (.int v :: .int x :: rv κ k :: st) (wM κ M) ct Q := by
  obtain ⟨hd, rfl⟩ := d
  obtain ⟨hi, he⟩ := ix_in hx hj
  intro p e R s m args below meth cd H locs ls C hl hH hS
  refine va_iast (cA := kc κ 0) (n := ln k) (f := M.1 k) C.1 C.2.1 C.2.2.2.2.2.2.2.2.2.1.1 hH.1 hH.2.1 hS k 0 ?_ rfl hi hd (fun H1 locs1 hP hD hS1 => ?_)
  · rw [wM_at κ M (kd_lt hc (by omega))]
    simp [ceq, hc]
  · have hH1 := HW.put C.2.2.2.2.2.2.2.2.2.2.1 C.2.2.2.2.2.2.2.2.2.2.2 hP hD hS1
    have hH1 := hH1.to (M' := sI M k j v) (by simp [ceq, hc, sI, he]) (fun a ha => ceq_congr (by simp [sI, ha]) rfl)
    exact kk p e R s m args below meth cd H1 locs1 ls C hl hH1 hS1
theorem wp_cald {k j : Nat} {x : Int32} (d : St y pc (.caload) 1 n) (hc : kd k = 11) (hx : x = nI j) (hj : j < ln k) (kk : WP κ r y n L (.int (M.1 k j) :: st) (wM κ M) ct Q) : WP κ r y pc L (.int x :: rv κ k :: st) (wM κ M) ct Q := by
  obtain ⟨hd, rfl⟩ := d
  obtain ⟨hi, he⟩ := ix_in hx hj
  intro p e R s m args below meth cd H locs ls C hl hH hS
  refine va_cald (cA := kc κ 1) (n := ln k) (f := M.1 k) C.1 C.2.1 C.2.2.2.2.2.2.2.2.2.1.1 hH.1 k 1 ?_ rfl hi hd ?_
  · rw [wM_at κ M (kd_lt hc (by omega))]
    simp [ceq, hc]
  · rw [he]
    exact kk p e R s m args below meth cd H locs ls C hl hH hS
theorem wp_cast {k j : Nat} {x v : Int32} (d : St y pc (.castore) 1 n) (hc : kd k = 11) (hx : x = nI j) (hj : j < ln k) (kk : WP κ r y n L st (wM κ (sI M k j (vp_nar .char v))) ct Q) : WP κ r y pc L (.int v :: .int x :: rv κ k :: st) (wM κ M) ct Q := by
  obtain ⟨hd, rfl⟩ := d
  obtain ⟨hi, he⟩ := ix_in hx hj
  intro p e R s m args below meth cd H locs ls C hl hH hS
  refine va_cast (cA := kc κ 1) (n := ln k) (f := M.1 k) C.1 C.2.1 C.2.2.2.2.2.2.2.2.2.1.1 hH.1 hH.2.1 hS k 1 ?_ rfl hi hd (fun H1 locs1 hP hD hS1 => ?_)
  · rw [wM_at κ M (kd_lt hc (by omega))]
    simp [ceq, hc]
  · have hH1 := HW.put C.2.2.2.2.2.2.2.2.2.2.1 C.2.2.2.2.2.2.2.2.2.2.2 hP hD hS1
    have hH1 := hH1.to (M' := sI M k j (vp_nar .char v)) (by simp [ceq, hc, sI, he]) (fun a ha => ceq_congr (by simp [sI, ha]) rfl)
    exact kk p e R s m args below meth cd H1 locs1 ls C hl hH1 hS1
theorem wp_lald {k j : Nat} {x : Int32} (d : St y pc (.laload) 1 n) (hc : kd k = 12) (hx : x = nI j) (hj : j < ln k) (kk : WP κ r y n L (.long (M.2 k j) :: st) (wM κ M) ct Q) : WP κ r y pc L (.int x :: rv κ k :: st) (wM κ M) ct Q := by
  obtain ⟨hd, rfl⟩ := d
  obtain ⟨hi, he⟩ := ix_in hx hj
  intro p e R s m args below meth cd H locs ls C hl hH hS
  refine va_lald (cA := kc κ 2) (n := ln k) (f := M.2 k) C.1 C.2.1 C.2.2.2.2.2.2.2.2.2.1.1 hH.1 k 2 ?_ rfl hi hd ?_
  · rw [wM_at κ M (kd_lt hc (by omega))]
    simp [ceq, hc]
  · rw [he]
    exact kk p e R s m args below meth cd H locs ls C hl hH hS
theorem wp_last {k j : Nat} {x : Int32} {v : Int64} (d : St y pc (.lastore) 1 n) (hc : kd k = 12) (hx : x = nI j) (hj : j < ln k) (kk : WP κ r y n L st (wM κ (sL M k j v)) ct Q) : WP κ r y pc L (.long v :: .int x :: rv κ k :: st) (wM κ M) ct Q := by
  obtain ⟨hd, rfl⟩ := d
  obtain ⟨hi, he⟩ := ix_in hx hj
  intro p e R s m args below meth cd H locs ls C hl hH hS
  refine va_last (cA := kc κ 2) (n := ln k) (f := M.2 k) C.1 C.2.1 C.2.2.2.2.2.2.2.2.2.1.1 hH.1 hH.2.1 hS k 2 ?_ rfl hi hd (fun H1 locs1 hP hD hS1 => ?_)
  · rw [wM_at κ M (kd_lt hc (by omega))]
    simp [ceq, hc]
  · have hH1 := HW.put C.2.2.2.2.2.2.2.2.2.2.1 C.2.2.2.2.2.2.2.2.2.2.2 hP hD hS1
    have hH1 := hH1.to (M' := sL M k j v) (by simp [ceq, hc, sL, he]) (fun a ha => ceq_congr rfl (by simp [sL, ha]))
    exact kk p e R s m args below meth cd H1 locs1 ls C hl hH1 hS1
theorem wp_aald {k j t : Nat} {x : Int32} (d : St y pc (.aaload) 1 n) (hc : kd k = 13 ∨ kd k = 14) (hx : x = nI j) (hj : j < ln k) (ht : rf k j = t) (kk : WP κ r y n L (rv κ t :: st) (wM κ M) ct Q) : WP κ r y pc L (.int x :: rv κ k :: st) (wM κ M) ct Q := by
  subst ht
  obtain ⟨hd, rfl⟩ := d
  obtain ⟨hi, he⟩ := ix_in hx hj
  intro p e R s m args below meth cd H locs ls C hl hH hS
  rcases hc with hc | hc
  · refine va_aldq (cA := kc κ 3) (C := RX3) (n := ln k) (f := fun j => some (ka κ (rf k j))) C.1 C.2.1 C.2.2.2.2.2.2.2.2.2.1.1 hH.1 k 3 ?_ rfl hi hd ?_
    · rw [wM_at κ M (kd_lt hc (by omega))]
      simp [ceq, hc]
    · rw [he]
      exact kk p e R s m args below meth cd H locs ls C hl hH hS
  · refine va_aldq (cA := kc κ 4) (C := RX2) (n := ln k) (f := fun j => some (ka κ (rf k j))) C.1 C.2.1 C.2.2.2.2.2.2.2.2.2.1.1 hH.1 k 4 ?_ rfl hi hd ?_
    · rw [wM_at κ M (kd_lt hc (by omega))]
      simp [ceq, hc]
    · rw [he]
      exact kk p e R s m args below meth cd H locs ls C hl hH hS
theorem wp_alen {k : Nat} (d : St y pc (.arraylength) 1 n) (hc : kd k = 10) (kk : WP κ r y n L (.int (nI (ln k)) :: st) (wM κ M) ct Q) : WP κ r y pc L (rv κ k :: st) (wM κ M) ct Q := by
  obtain ⟨hd, rfl⟩ := d
  intro p e R s m args below meth cd H locs ls C hl hH hS
  refine va_alen (cA := kc κ 0) (x := (ln k, .inl (M.1 k))) (ty := .int) C.1 C.2.1 C.2.2.2.2.2.2.2.2.2.1.1 hH.1 k 0 ?_ rfl rfl hd (kk p e R s m args below meth cd H locs ls C hl hH hS)
  rw [wM_at κ M (kd_lt hc (by omega))]
  simp [ceq, hc]
theorem nfw_le : nativeFrameWords "java/lang/System" "arraycopy" 5 + 11 ≤ 37 - 8 := by decide +kernel
theorem wp_copyi {i k0 k1 a b z : Nat} {xa xb xz : Int32} (f : Cond.methodLink y.1.cls i arraycopyName ∈ TB) (d : St y pc (.invokestatic i) 3 n) (h0 : kd k0 = 10) (h1 : kd k1 = 10) (ha : xa = nI a) (hb : xb = nI b) (hz : xz = nI z) (hl0 : a + z ≤ ln k0) (hl1 : b + z ≤ ln k1) (hr : 1 ≤ r.1) (hcat : (st.map fun v => v.category).sum ≤ 8) (kk : WP κ r y n L st (wM κ (rI M k1 (va_cpy (M.1 k0) (M.1 k1) a b z))) ct Q) : WP κ r y pc L (.int xz :: .int xb :: rv κ k1 :: .int xa :: rv κ k0 :: st) (wM κ M) ct Q := by
  obtain ⟨hd, rfl⟩ := d
  have l0 := ln_lt k0
  have l1 := ln_lt k1
  have ea : xa.toNatClampNeg = a := by rw [ha]; exact nI_clamp (by omega)
  have eb : xb.toNatClampNeg = b := by rw [hb]; exact nI_clamp (by omega)
  have ez : xz.toNatClampNeg = z := by rw [hz]; exact nI_clamp (by omega)
  intro p e R s m args below meth cd H locs ls C hl hH hS
  have hR := C.2.2.2.2.2.1
  have hnf := nfw_le
  refine va_copyi (c0 := kc κ 0) (c1 := kc κ 0) (n0 := ln k0) (n1 := ln k1) (f := M.1 k0) (g := M.1 k1) (ty := .int) C.1 C.2.1 (C.2.2.1.trans hl.1.symm) C.2.2.2.1 (C.2.2.2.2.1 _ f) (C.2.2.2.2.1 _ nt_cp) (C.2.2.2.2.1 _ st_cp) (C.2.2.2.2.1 _ in_sys) C.2.2.2.2.2.2.2.2.2.1.1 hH.1 hH.2.1 hS k0 k1 0 0 ?_ ?_ rfl rfl rfl (by rw [ha]; exact nI_pos (by omega)) (by rw [hb]; exact nI_pos (by omega)) (by rw [hz]; exact nI_pos (by omega)) (by rw [ea, ez]; exact hl0) (by rw [eb, ez]; exact hl1) (fun _ _ => rfl) (by omega) (by omega) hd (fun H1 locs1 hP hD hS1 => ?_)
  · rw [wM_at κ M (kd_lt h0 (by omega))]
    simp [ceq, h0]
  · rw [wM_at κ M (kd_lt h1 (by omega))]
    simp [ceq, h1]
  · have hH1 := HW.put C.2.2.2.2.2.2.2.2.2.2.1 C.2.2.2.2.2.2.2.2.2.2.2 hP hD hS1
    rw [ea, eb, ez] at hH1
    have hH1 := hH1.to (M' := rI M k1 (va_cpy (M.1 k0) (M.1 k1) a b z)) (by simp [ceq, h1, rI]) (fun a ha => ceq_congr (by simp [rI, ha]) rfl)
    exact kk p e R s m args below meth cd H1 locs1 ls C hl hH1 hS1
theorem wp_copyl {i k0 k1 a b z : Nat} {xa xb xz : Int32} (f : Cond.methodLink y.1.cls i arraycopyName ∈ TB) (d : St y pc (.invokestatic i) 3 n) (h0 : kd k0 = 12) (h1 : kd k1 = 12) (ha : xa = nI a) (hb : xb = nI b) (hz : xz = nI z) (hl0 : a + z ≤ ln k0) (hl1 : b + z ≤ ln k1) (hr : 1 ≤ r.1) (hcat : (st.map fun v => v.category).sum ≤ 8) (kk : WP κ r y n L st (wM κ (rL M k1 (va_cpy (M.2 k0) (M.2 k1) a b z))) ct Q) : WP κ r y pc L (.int xz :: .int xb :: rv κ k1 :: .int xa :: rv κ k0 :: st) (wM κ M) ct Q := by
  obtain ⟨hd, rfl⟩ := d
  have l0 := ln_lt k0
  have l1 := ln_lt k1
  have ea : xa.toNatClampNeg = a := by rw [ha]; exact nI_clamp (by omega)
  have eb : xb.toNatClampNeg = b := by rw [hb]; exact nI_clamp (by omega)
  have ez : xz.toNatClampNeg = z := by rw [hz]; exact nI_clamp (by omega)
  intro p e R s m args below meth cd H locs ls C hl hH hS
  have hR := C.2.2.2.2.2.1
  have hnf := nfw_le
  refine va_copyl (c0 := kc κ 2) (c1 := kc κ 2) (n0 := ln k0) (n1 := ln k1) (f := M.2 k0) (g := M.2 k1) (ty := .long) C.1 C.2.1 (C.2.2.1.trans hl.1.symm) C.2.2.2.1 (C.2.2.2.2.1 _ f) (C.2.2.2.2.1 _ nt_cp) (C.2.2.2.2.1 _ st_cp) (C.2.2.2.2.1 _ in_sys) C.2.2.2.2.2.2.2.2.2.1.1 hH.1 hH.2.1 hS k0 k1 2 2 ?_ ?_ rfl rfl rfl (by rw [ha]; exact nI_pos (by omega)) (by rw [hb]; exact nI_pos (by omega)) (by rw [hz]; exact nI_pos (by omega)) (by rw [ea, ez]; exact hl0) (by rw [eb, ez]; exact hl1) (fun _ _ => rfl) (by omega) (by omega) hd (fun H1 locs1 hP hD hS1 => ?_)
  · rw [wM_at κ M (kd_lt h0 (by omega))]
    simp [ceq, h0]
  · rw [wM_at κ M (kd_lt h1 (by omega))]
    simp [ceq, h1]
  · have hH1 := HW.put C.2.2.2.2.2.2.2.2.2.2.1 C.2.2.2.2.2.2.2.2.2.2.2 hP hD hS1
    rw [ea, eb, ez] at hH1
    have hH1 := hH1.to (M' := rL M k1 (va_cpy (M.2 k0) (M.2 k1) a b z)) (by simp [ceq, h1, rL]) (fun a ha => ceq_congr rfl (by simp [rL, ha]))
    exact kk p e R s m args below meth cd H1 locs1 ls C hl hH1 hS1
end WPM
/-! ===== calls ===== -/
def psh : Option Value → List Value → List Value
  | none, l => l
  | some v, l => v :: l
section WPC
variable {κ : KX} {r r' : RM} {y y' : MD} {pc n : Nat} {L : List (Option Value)} {st : List Value} {w : va_W} {M : MM} {ct : Nat × Nat} {Q : Option Value → va_W → Prop}
theorem wp_max {i : Nat} {x z : Int32} (f : Cond.methodLink y.1.cls i Lib.Math.max.name ∈ TB) (d : St y pc (.invokestatic i) 3 n) (hr : 1 ≤ r.1 ∧ ct.1 ≤ r.2.1 ∧ ct.2 ≤ r.2.2) (hcat : (st.map fun v => v.category).sum ≤ 8) (k : WP κ r y n L (.int (if x < z then z else x) :: st) w ct Q) : WP κ r y pc L (.int z :: .int x :: st) w ct Q := by
  obtain ⟨hd, rfl⟩ := d
  intro p e R s m args below meth cd H locs ls C hl hH hS
  have hR := C.2.2.2.2.2.1
  exact va_mmax C.1 C.2.1 (C.2.2.1.trans hl.1.symm) C.2.2.2.1 (C.2.2.2.2.1 _ f) (C.2.2.2.2.1 _ st_max) (C.2.2.2.2.1 _ in_math) (C.2.2.2.2.1 _ co_mmax) (by omega) (by omega) (by omega) (by omega) hd (k p e R s m args below meth cd H locs ls C hl hH hS)
theorem wp_min {i : Nat} {x z : Int32} (f : Cond.methodLink y.1.cls i Lib.Math.min.name ∈ TB) (d : St y pc (.invokestatic i) 3 n) (hr : 1 ≤ r.1 ∧ ct.1 ≤ r.2.1 ∧ ct.2 ≤ r.2.2) (hcat : (st.map fun v => v.category).sum ≤ 8) (k : WP κ r y n L (.int (if z < x then z else x) :: st) w ct Q) : WP κ r y pc L (.int z :: .int x :: st) w ct Q := by
  obtain ⟨hd, rfl⟩ := d
  intro p e R s m args below meth cd H locs ls C hl hH hS
  have hR := C.2.2.2.2.2.1
  exact va_mmin C.1 C.2.1 (C.2.2.1.trans hl.1.symm) C.2.2.2.1 (C.2.2.2.2.1 _ f) (C.2.2.2.2.1 _ st_min) (C.2.2.2.2.1 _ in_math) (C.2.2.2.2.1 _ co_mmin) (by omega) (by omega) (by omega) (by omega) hd (k p e R s m args below meth cd H locs ls C hl hH hS)
/-- what a call needs beside its kind -/
def Lev (r r' : RM) (ct : Nat × Nat) : Prop := r'.1 + 1 ≤ r.1 ∧ ct.1 + r'.2.1 ≤ r.2.1 ∧ ct.2 + r'.2.2 ≤ r.2.2
theorem wp_back {p : Program} {e : Env} {R : Room} {s : State} {m : MethodId} {args : Array Value} {below : List Frame} {meth : Method} {c : Code} {H : Heap} {locs : List Loc} {ls : Array Slot} {stk : List Value} {a : Array Value} (C : Cx κ r y p R s m args meth c) (hl : lvL ls y.2.2.1 L) (hS : va_S (kA κ) s.heap H locs)
    (h : va_Run p κ.1 e R s m args below meth c H locs ct.1 ct.2 r'.2.1 r'.2.2 (F0 m pc ls stk) st (QW κ (fun v w' => WP κ r y (pc + 3) L (psh v st) w' (ct.1 + r'.2.1, ct.2 + r'.2.2) Q) a) (kA κ)) : W p κ.1 e R s m args below meth c H locs ct.1 ct.2 (MQ below (QW κ Q) args s r.2.1 r.2.2 (kA κ)) (F0 m pc ls stk) := by
  intro T hT X
  obtain ⟨v, st₀, t, T', L', h0, X', hL, e1, e2, ⟨⟨v2, w', hv, hQ, hH'⟩, hz, hk⟩, stp⟩ := h T hT X
  cases hv
  rw [h0] at hz hk
  have hS' : va_S (kA κ) s.heap t.heap (locs ++ L') := ⟨Nat.le_trans hS.1 hz, fun q h1 h2 => by rw [hk q (Nat.lt_of_lt_of_le h1 hS.1) h2]; exact hS.2.1 q h1 h2, fun q hq => by
    rcases List.mem_append.mp hq with h | h
    · exact hS.2.2 q h
    · exact hL q h⟩
  have hpsh : v.toList ++ st = psh v st := by cases v <;> rfl
  obtain ⟨t2, a1, b1⟩ := hQ p e R s m args below meth c t.heap (locs ++ L') ls C hl hH' hS' T' e1 X'
  rw [← hpsh] at a1
  exact ⟨t2, stp t2 a1, b1⟩
theorem wp_pays {R : Room} {s : State} {m : MethodId} {args : Array Value} {meth : Method} {c : Code} {p : Program} {na : Nat} (C : Cx κ r y p R s m args meth c) (ok : cOK y' na) : (∀ w ∈ (Cond.code y'.1 y'.2.1 y'.2.2.1 y'.2.2.2 :: TB), ∀ (a' : Array Value) (U : State), s.WarmedH U.vm → w.before a' U = true) :=
  pay_in C.2.2.2.2.1 (fun w hw => by
    rcases List.mem_cons.mp hw with rfl | h
    · exact ⟨ok.2.1, TB_good ok.2.1⟩
    · exact ⟨h, TB_good h⟩)
theorem wp_callB {R : Room} {s : State} {m : MethodId} {args : Array Value} {meth : Method} {c : Code} {p : Program} {i na : Nat} (C : Cx κ r y p R s m args meth c) (hl : Cond.methodLink y.1.cls i y'.1 ∈ TB) (ok : cOK y' na) (lv : Lev r r' ct) : CallB R s args y.1.cls i y'.1 y'.2.1 y'.2.2.1 y'.2.2.2 (Cond.code y'.1 y'.2.1 y'.2.2.1 y'.2.2.2 :: TB) (rm_of r') r'.2.1 r'.2.2 na := by
  have hR := C.2.2.2.2.2.1
  have h18 := ok.2.2.2.2.1
  have h1 := lv.1
  refine ⟨rfl, rfl, by show r'.1 + 1 ≤ _; omega, by show 8 + (_ + 11) + 37 * r'.1 ≤ _; omega, wp_pays C ok, List.mem_cons_self, C.2.2.2.2.1 _ ok.2.1, C.2.2.2.2.1 _ ok.1, ok.2.2.1, fun sig h => ?_, C.2.2.2.2.1 _ hl⟩
  have h2 := ok.2.2.2.1
  rw [h] at h2
  exact (Option.some.inj h2).symm
theorem wp_callN {R : Room} {s : State} {m : MethodId} {args : Array Value} {meth : Method} {c : Code} {p : Program} {i na : Nat} (C : Cx κ r y p R s m args meth c) (hl : Cond.methodLinkNest y.1.cls i y'.1 "QuarrelWalls" ∈ NW) (ok : cOK y' na) (lv : Lev r r' ct) : va_CN R s args y.1.cls i y'.1 "QuarrelWalls" y'.2.1 y'.2.2.1 y'.2.2.2 (Cond.code y'.1 y'.2.1 y'.2.2.1 y'.2.2.2 :: TB) (rm_of r') r'.2.1 r'.2.2 na := by
  have hR := C.2.2.2.2.2.1
  have h18 := ok.2.2.2.2.1
  have h1 := lv.1
  refine ⟨⟨rfl, rfl, by show r'.1 + 1 ≤ _; omega, by show 8 + (_ + 11) + 37 * r'.1 ≤ _; omega, wp_pays C ok, List.mem_cons_self⟩, C.2.2.2.2.1 _ ok.2.1, C.2.2.2.2.1 _ ok.1, ok.2.2.1, fun sig h => ?_, va_Nw.use rfl (C.2.2.2.2.2.2.2.2.2.1.2.1 _ hl)⟩
  have h2 := ok.2.2.2.1
  rw [h] at h2
  exact (Option.some.inj h2).symm
theorem wp_preS {p : Program} {R : Room} {s : State} {m : MethodId} {args : Array Value} {meth : Method} {c : Code} {H : Heap} {As : List Value} (C : Cx κ r y p R s m args meth c) (hH : HW κ w H) : PreS s H (va_Pc As (PU κ w)) As :=
  ⟨PU.blind, fun U hU hW => ⟨rfl, by rw [hU]; exact hH, KN.moved hW C.2.2.2.2.2.2.2.2.2.1⟩⟩
theorem wp_callS {i na : Nat} {As : List Value} {stk : List Value} (f : CS y.1.cls i y' na) (d : St y pc (.invokestatic i) 3 n) (lv : Lev r r' ct) (hn : As.length = na) (hst : stk = As.reverse ++ st) (hcat : (st.map fun v => v.category).sum ≤ 8) (h : CT κ r' y' As w (fun v w' => WP κ r y n L (psh v st) w' (ct.1 + r'.2.1, ct.2 + r'.2.2) Q)) : WP κ r y pc L stk w ct Q := by
  obtain ⟨hd, rfl⟩ := d
  intro p e R s m args below meth c H locs ls C hl hH hS
  have hR := C.2.2.2.2.2.1
  exact wp_back C hl hS (va_runS ⟨C.1, C.2.1, C.2.2.1, C.2.2.2.1, C.2.2.2.2.1⟩ h ⟨wp_callB C f.1 f.2.2 lv, C.2.2.2.2.1 _ f.2.1⟩ (wp_preS C hH) rfl hn hl.1 hst (lv_room hcat) hd ⟨by rw [hR.2.2.1]; exact lv.2.1, by rw [hR.2.2.2]; exact lv.2.2⟩)
theorem wp_callSN {i na : Nat} {As : List Value} {stk : List Value} (f : NS y.1.cls i y' na) (d : St y pc (.invokestatic i) 3 n) (lv : Lev r r' ct) (hn : As.length = na) (hst : stk = As.reverse ++ st) (hcat : (st.map fun v => v.category).sum ≤ 8) (h : CT κ r' y' As w (fun v w' => WP κ r y n L (psh v st) w' (ct.1 + r'.2.1, ct.2 + r'.2.2) Q)) : WP κ r y pc L stk w ct Q := by
  obtain ⟨hd, rfl⟩ := d
  intro p e R s m args below meth c H locs ls C hl hH hS
  have hR := C.2.2.2.2.2.1
  exact wp_back C hl hS (va_runSN ⟨C.1, C.2.1, C.2.2.1, C.2.2.2.1, C.2.2.2.2.1⟩ h ⟨wp_callN C f.1 f.2.2 lv, C.2.2.2.2.1 _ f.2.1, trivial⟩ (wp_preS C hH) rfl hn hl.1 hst (lv_room hcat) hd ⟨by rw [hR.2.2.1]; exact lv.2.1, by rw [hR.2.2.2]; exact lv.2.2⟩)
theorem wp_callI {i na a : Nat} {As : List Value} {stk : List Value} (f : CI y.1.cls i y' na) (d : St y pc (.invokespecial i) 3 n) (lv : Lev r r' ct) (hn : As.length = na) (hst : stk = As.reverse ++ .ref a :: st) (hcat : (st.map fun v => v.category).sum ≤ 8) (h : CT κ r' y' (.ref a :: As) w (fun v w' => WP κ r y n L (psh v st) w' (ct.1 + r'.2.1, ct.2 + r'.2.2) Q)) : WP κ r y pc L stk w ct Q := by
  obtain ⟨hd, rfl⟩ := d
  intro p e R s m args below meth c H locs ls C hl hH hS
  have hR := C.2.2.2.2.2.1
  have hcb := wp_callB C f.1 f.2.2.2.2 lv
  unfold CT at h
  rw [f.2.2.2.1] at hcb h
  exact wp_back C hl hS (va_runI ⟨C.1, C.2.1, C.2.2.1, C.2.2.2.1, C.2.2.2.2.1⟩ h ⟨hcb, f.2.2.1, C.2.2.2.2.1 _ f.2.1⟩ (wp_preS C hH) rfl hn hl.1 hst (lv_room hcat) hd ⟨by rw [hR.2.2.1]; exact lv.2.1, by rw [hR.2.2.2]; exact lv.2.2⟩)
theorem wp_callIN {i na a : Nat} {As : List Value} {stk : List Value} (f : NI y.1.cls i y' na) (d : St y pc (.invokespecial i) 3 n) (lv : Lev r r' ct) (hn : As.length = na) (hst : stk = As.reverse ++ .ref a :: st) (hcat : (st.map fun v => v.category).sum ≤ 8) (h : CT κ r' y' (.ref a :: As) w (fun v w' => WP κ r y n L (psh v st) w' (ct.1 + r'.2.1, ct.2 + r'.2.2) Q)) : WP κ r y pc L stk w ct Q := by
  obtain ⟨hd, rfl⟩ := d
  intro p e R s m args below meth c H locs ls C hl hH hS
  have hR := C.2.2.2.2.2.1
  have hcb := wp_callN C f.1 f.2.2.2.2 lv
  unfold CT at h
  rw [f.2.2.2.1] at hcb h
  exact wp_back C hl hS (va_runIN ⟨C.1, C.2.1, C.2.2.1, C.2.2.2.1, C.2.2.2.2.1⟩ h ⟨hcb, f.2.2.1, C.2.2.2.2.1 _ f.2.1⟩ (wp_preS C hH) rfl hn hl.1 hst (lv_room hcat) hd ⟨by rw [hR.2.2.1]; exact lv.2.1, by rw [hR.2.2.2]; exact lv.2.2⟩)
/-- a call on an object of the world -/
theorem wp_callV {i na k c : Nat} {As : List Value} {stk : List Value} (f : CV y.1.cls i y' na) (d : St y pc (.invokevirtual i) 3 n) (hk : kd k = c) (hc : (vwCl[c]?).map (fun q => q.1) = some y'.1.cls) (lv : Lev r r' ct) (hn : As.length = na) (hst : stk = As.reverse ++ rv κ k :: st) (hcat : (st.map fun v => v.category).sum ≤ 8) (h : CT κ r' y' (rv κ k :: As) (wM κ M) (fun v w' => WP κ r y n L (psh v st) w' (ct.1 + r'.2.1, ct.2 + r'.2.2) Q)) : WP κ r y pc L stk (wM κ M) ct Q := by
  obtain ⟨hd, rfl⟩ := d
  intro p e R s m args below meth cd H locs ls C hl hH hS
  have hR := C.2.2.2.2.2.1
  have hrc : ∃ cellB : Cell, H[ka κ k]? = some cellB ∧ cellB.vm.isStatics = false ∧ s.vm.findClass y'.1.cls = some cellB.cls := by
    cases hq : vwCl[c]? with
    | none => rw [hq] at hc; cases hc
    | some q =>
      rw [hq] at hc
      have hq1 : q.1 = y'.1.cls := Option.some.inj hc
      rw [← hq1]
      have h8 := (cl_ok hq).1
      exact va_recv C.2.2.2.2.2.2.2.2.2.1.1 hH.1 hq (q0 := k) (by rw [wM_at κ M (kd_lt hk (by omega)), ceq_obj hk h8])
  have hp := wp_preS (As := rv κ k :: As) C hH
  exact wp_back C hl hS (va_runV (C := y'.1.cls) ⟨C.1, C.2.1, C.2.2.1, C.2.2.2.1, C.2.2.2.2.1⟩ h ⟨wp_callB C f.1 f.2.2.2 lv, C.2.2.2.2.1 _ f.2.1, C.2.2.2.2.1 _ f.2.2.1⟩ ⟨hp.1, hrc, hp.2⟩ rfl hn hl.1 hst (lv_room hcat) hd ⟨by rw [hR.2.2.1]; exact lv.2.1, by rw [hR.2.2.2]; exact lv.2.2⟩)
end WPC
end
section
/-! calls, by the number of their arguments; rows for the walker -/
section WPV
variable {κ : KX} {r r' : RM} {y y' : MD} {pc n : Nat} {L : List (Option Value)} {st : List Value} {w : va_W} {M : MM} {ct : Nat × Nat} {Q : Option Value → va_W → Prop}
theorem wp_callS_0 {i : Nat} (f : CS y.1.cls i y' 0) (d : St y pc (.invokestatic i) 3 n) (h : CT κ r' y' [] w (fun v w' => WP κ r y n L (psh v st) w' (ct.1 + r'.2.1, ct.2 + r'.2.2) Q)) (lv : Lev r r' ct) (hcat : (st.map fun v => v.category).sum ≤ 8) : WP κ r y pc L (st) w ct Q := wp_callS f d lv rfl rfl hcat h
theorem wp_callSN_0 {i : Nat} (f : NS y.1.cls i y' 0) (d : St y pc (.invokestatic i) 3 n) (h : CT κ r' y' [] w (fun v w' => WP κ r y n L (psh v st) w' (ct.1 + r'.2.1, ct.2 + r'.2.2) Q)) (lv : Lev r r' ct) (hcat : (st.map fun v => v.category).sum ≤ 8) : WP κ r y pc L (st) w ct Q := wp_callSN f d lv rfl rfl hcat h
theorem wp_callI_0 {i a : Nat} (f : CI y.1.cls i y' 0) (d : St y pc (.invokespecial i) 3 n) (h : CT κ r' y' (.ref a :: []) w (fun v w' => WP κ r y n L (psh v st) w' (ct.1 + r'.2.1, ct.2 + r'.2.2) Q)) (lv : Lev r r' ct) (hcat : (st.map fun v => v.category).sum ≤ 8) : WP κ r y pc L (.ref a :: st) w ct Q := wp_callI (As := []) f d lv rfl rfl hcat h
theorem wp_callIN_0 {i a : Nat} (f : NI y.1.cls i y' 0) (d : St y pc (.invokespecial i) 3 n) (h : CT κ r' y' (.ref a :: []) w (fun v w' => WP κ r y n L (psh v st) w' (ct.1 + r'.2.1, ct.2 + r'.2.2) Q)) (lv : Lev r r' ct) (hcat : (st.map fun v => v.category).sum ≤ 8) : WP κ r y pc L (.ref a :: st) w ct Q := wp_callIN (As := []) f d lv rfl rfl hcat h
theorem wp_callV_0 {i k c : Nat} (f : CV y.1.cls i y' 0) (d : St y pc (.invokevirtual i) 3 n) (hk : kd k = c) (hc : (vwCl[c]?).map (fun q => q.1) = some y'.1.cls) (h : CT κ r' y' (rv κ k :: []) (wM κ M) (fun v w' => WP κ r y n L (psh v st) w' (ct.1 + r'.2.1, ct.2 + r'.2.2) Q)) (lv : Lev r r' ct) (hcat : (st.map fun v => v.category).sum ≤ 8) : WP κ r y pc L (rv κ k :: st) (wM κ M) ct Q := wp_callV (As := []) f d hk hc lv rfl rfl hcat h
theorem wp_callS_1 {i : Nat} {a0 : Value} (f : CS y.1.cls i y' 1) (d : St y pc (.invokestatic i) 3 n) (h : CT κ r' y' [a0] w (fun v w' => WP κ r y n L (psh v st) w' (ct.1 + r'.2.1, ct.2 + r'.2.2) Q)) (lv : Lev r r' ct) (hcat : (st.map fun v => v.category).sum ≤ 8) : WP κ r y pc L (a0 :: st) w ct Q := wp_callS f d lv rfl rfl hcat h
theorem wp_callSN_1 {i : Nat} {a0 : Value} (f : NS y.1.cls i y' 1) (d : St y pc (.invokestatic i) 3 n) (h : CT κ r' y' [a0] w (fun v w' => WP κ r y n L (psh v st) w' (ct.1 + r'.2.1, ct.2 + r'.2.2) Q)) (lv : Lev r r' ct) (hcat : (st.map fun v => v.category).sum ≤ 8) : WP κ r y pc L (a0 :: st) w ct Q := wp_callSN f d lv rfl rfl hcat h
theorem wp_callI_1 {i a : Nat} {a0 : Value} (f : CI y.1.cls i y' 1) (d : St y pc (.invokespecial i) 3 n) (h : CT κ r' y' (.ref a :: [a0]) w (fun v w' => WP κ r y n L (psh v st) w' (ct.1 + r'.2.1, ct.2 + r'.2.2) Q)) (lv : Lev r r' ct) (hcat : (st.map fun v => v.category).sum ≤ 8) : WP κ r y pc L (a0 :: .ref a :: st) w ct Q := wp_callI (As := [a0]) f d lv rfl rfl hcat h
theorem wp_callIN_1 {i a : Nat} {a0 : Value} (f : NI y.1.cls i y' 1) (d : St y pc (.invokespecial i) 3 n) (h : CT κ r' y' (.ref a :: [a0]) w (fun v w' => WP κ r y n L (psh v st) w' (ct.1 + r'.2.1, ct.2 + r'.2.2) Q)) (lv : Lev r r' ct) (hcat : (st.map fun v => v.category).sum ≤ 8) : WP κ r y pc L (a0 :: .ref a :: st) w ct Q := wp_callIN (As := [a0]) f d lv rfl rfl hcat h
theorem wp_callV_1 {i k c : Nat} {a0 : Value} (f : CV y.1.cls i y' 1) (d : St y pc (.invokevirtual i) 3 n) (hk : kd k = c) (hc : (vwCl[c]?).map (fun q => q.1) = some y'.1.cls) (h : CT κ r' y' (rv κ k :: [a0]) (wM κ M) (fun v w' => WP κ r y n L (psh v st) w' (ct.1 + r'.2.1, ct.2 + r'.2.2) Q)) (lv : Lev r r' ct) (hcat : (st.map fun v => v.category).sum ≤ 8) : WP κ r y pc L (a0 :: rv κ k :: st) (wM κ M) ct Q := wp_callV (As := [a0]) f d hk hc lv rfl rfl hcat h
theorem wp_callS_2 {i : Nat} {a0 a1 : Value} (f : CS y.1.cls i y' 2) (d : St y pc (.invokestatic i) 3 n) (h : CT κ r' y' [a0, a1] w (fun v w' => WP κ r y n L (psh v st) w' (ct.1 + r'.2.1, ct.2 + r'.2.2) Q)) (lv : Lev r r' ct) (hcat : (st.map fun v => v.category).sum ≤ 8) : WP κ r y pc L (a1 :: a0 :: st) w ct Q := wp_callS f d lv rfl rfl hcat h
theorem wp_callSN_2 {i : Nat} {a0 a1 : Value} (f : NS y.1.cls i y' 2) (d : St y pc (.invokestatic i) 3 n) (h : CT κ r' y' [a0, a1] w (fun v w' => WP κ r y n L (psh v st) w' (ct.1 + r'.2.1, ct.2 + r'.2.2) Q)) (lv : Lev r r' ct) (hcat : (st.map fun v => v.category).sum ≤ 8) : WP κ r y pc L (a1 :: a0 :: st) w ct Q := wp_callSN f d lv rfl rfl hcat h
theorem wp_callI_2 {i a : Nat} {a0 a1 : Value} (f : CI y.1.cls i y' 2) (d : St y pc (.invokespecial i) 3 n) (h : CT κ r' y' (.ref a :: [a0, a1]) w (fun v w' => WP κ r y n L (psh v st) w' (ct.1 + r'.2.1, ct.2 + r'.2.2) Q)) (lv : Lev r r' ct) (hcat : (st.map fun v => v.category).sum ≤ 8) : WP κ r y pc L (a1 :: a0 :: .ref a :: st) w ct Q := wp_callI (As := [a0, a1]) f d lv rfl rfl hcat h
theorem wp_callIN_2 {i a : Nat} {a0 a1 : Value} (f : NI y.1.cls i y' 2) (d : St y pc (.invokespecial i) 3 n) (h : CT κ r' y' (.ref a :: [a0, a1]) w (fun v w' => WP κ r y n L (psh v st) w' (ct.1 + r'.2.1, ct.2 + r'.2.2) Q)) (lv : Lev r r' ct) (hcat : (st.map fun v => v.category).sum ≤ 8) : WP κ r y pc L (a1 :: a0 :: .ref a :: st) w ct Q := wp_callIN (As := [a0, a1]) f d lv rfl rfl hcat h
theorem wp_callV_2 {i k c : Nat} {a0 a1 : Value} (f : CV y.1.cls i y' 2) (d : St y pc (.invokevirtual i) 3 n) (hk : kd k = c) (hc : (vwCl[c]?).map (fun q => q.1) = some y'.1.cls) (h : CT κ r' y' (rv κ k :: [a0, a1]) (wM κ M) (fun v w' => WP κ r y n L (psh v st) w' (ct.1 + r'.2.1, ct.2 + r'.2.2) Q)) (lv : Lev r r' ct) (hcat : (st.map fun v => v.category).sum ≤ 8) : WP κ r y pc L (a1 :: a0 :: rv κ k :: st) (wM κ M) ct Q := wp_callV (As := [a0, a1]) f d hk hc lv rfl rfl hcat h
theorem wp_callS_3 {i : Nat} {a0 a1 a2 : Value} (f : CS y.1.cls i y' 3) (d : St y pc (.invokestatic i) 3 n) (h : CT κ r' y' [a0, a1, a2] w (fun v w' => WP κ r y n L (psh v st) w' (ct.1 + r'.2.1, ct.2 + r'.2.2) Q)) (lv : Lev r r' ct) (hcat : (st.map fun v => v.category).sum ≤ 8) : WP κ r y pc L (a2 :: a1 :: a0 :: st) w ct Q := wp_callS f d lv rfl rfl hcat h
theorem wp_callSN_3 {i : Nat} {a0 a1 a2 : Value} (f : NS y.1.cls i y' 3) (d : St y pc (.invokestatic i) 3 n) (h : CT κ r' y' [a0, a1, a2] w (fun v w' => WP κ r y n L (psh v st) w' (ct.1 + r'.2.1, ct.2 + r'.2.2) Q)) (lv : Lev r r' ct) (hcat : (st.map fun v => v.category).sum ≤ 8) : WP κ r y pc L (a2 :: a1 :: a0 :: st) w ct Q := wp_callSN f d lv rfl rfl hcat h
theorem wp_callI_3 {i a : Nat} {a0 a1 a2 : Value} (f : CI y.1.cls i y' 3) (d : St y pc (.invokespecial i) 3 n) (h : CT κ r' y' (.ref a :: [a0, a1, a2]) w (fun v w' => WP κ r y n L (psh v st) w' (ct.1 + r'.2.1, ct.2 + r'.2.2) Q)) (lv : Lev r r' ct) (hcat : (st.map fun v => v.category).sum ≤ 8) : WP κ r y pc L (a2 :: a1 :: a0 :: .ref a :: st) w ct Q := wp_callI (As := [a0, a1, a2]) f d lv rfl rfl hcat h
theorem wp_callIN_3 {i a : Nat} {a0 a1 a2 : Value} (f : NI y.1.cls i y' 3) (d : St y pc (.invokespecial i) 3 n) (h : CT κ r' y' (.ref a :: [a0, a1, a2]) w (fun v w' => WP κ r y n L (psh v st) w' (ct.1 + r'.2.1, ct.2 + r'.2.2) Q)) (lv : Lev r r' ct) (hcat : (st.map fun v => v.category).sum ≤ 8) : WP κ r y pc L (a2 :: a1 :: a0 :: .ref a :: st) w ct Q := wp_callIN (As := [a0, a1, a2]) f d lv rfl rfl hcat h
theorem wp_callV_3 {i k c : Nat} {a0 a1 a2 : Value} (f : CV y.1.cls i y' 3) (d : St y pc (.invokevirtual i) 3 n) (hk : kd k = c) (hc : (vwCl[c]?).map (fun q => q.1) = some y'.1.cls) (h : CT κ r' y' (rv κ k :: [a0, a1, a2]) (wM κ M) (fun v w' => WP κ r y n L (psh v st) w' (ct.1 + r'.2.1, ct.2 + r'.2.2) Q)) (lv : Lev r r' ct) (hcat : (st.map fun v => v.category).sum ≤ 8) : WP κ r y pc L (a2 :: a1 :: a0 :: rv κ k :: st) (wM κ M) ct Q := wp_callV (As := [a0, a1, a2]) f d hk hc lv rfl rfl hcat h
theorem wp_callS_4 {i : Nat} {a0 a1 a2 a3 : Value} (f : CS y.1.cls i y' 4) (d : St y pc (.invokestatic i) 3 n) (h : CT κ r' y' [a0, a1, a2, a3] w (fun v w' => WP κ r y n L (psh v st) w' (ct.1 + r'.2.1, ct.2 + r'.2.2) Q)) (lv : Lev r r' ct) (hcat : (st.map fun v => v.category).sum ≤ 8) : WP κ r y pc L (a3 :: a2 :: a1 :: a0 :: st) w ct Q := wp_callS f d lv rfl rfl hcat h
theorem wp_callSN_4 {i : Nat} {a0 a1 a2 a3 : Value} (f : NS y.1.cls i y' 4) (d : St y pc (.invokestatic i) 3 n) (h : CT κ r' y' [a0, a1, a2, a3] w (fun v w' => WP κ r y n L (psh v st) w' (ct.1 + r'.2.1, ct.2 + r'.2.2) Q)) (lv : Lev r r' ct) (hcat : (st.map fun v => v.category).sum ≤ 8) : WP κ r y pc L (a3 :: a2 :: a1 :: a0 :: st) w ct Q := wp_callSN f d lv rfl rfl hcat h
theorem wp_callI_4 {i a : Nat} {a0 a1 a2 a3 : Value} (f : CI y.1.cls i y' 4) (d : St y pc (.invokespecial i) 3 n) (h : CT κ r' y' (.ref a :: [a0, a1, a2, a3]) w (fun v w' => WP κ r y n L (psh v st) w' (ct.1 + r'.2.1, ct.2 + r'.2.2) Q)) (lv : Lev r r' ct) (hcat : (st.map fun v => v.category).sum ≤ 8) : WP κ r y pc L (a3 :: a2 :: a1 :: a0 :: .ref a :: st) w ct Q := wp_callI (As := [a0, a1, a2, a3]) f d lv rfl rfl hcat h
theorem wp_callIN_4 {i a : Nat} {a0 a1 a2 a3 : Value} (f : NI y.1.cls i y' 4) (d : St y pc (.invokespecial i) 3 n) (h : CT κ r' y' (.ref a :: [a0, a1, a2, a3]) w (fun v w' => WP κ r y n L (psh v st) w' (ct.1 + r'.2.1, ct.2 + r'.2.2) Q)) (lv : Lev r r' ct) (hcat : (st.map fun v => v.category).sum ≤ 8) : WP κ r y pc L (a3 :: a2 :: a1 :: a0 :: .ref a :: st) w ct Q := wp_callIN (As := [a0, a1, a2, a3]) f d lv rfl rfl hcat h
theorem wp_callV_4 {i k c : Nat} {a0 a1 a2 a3 : Value} (f : CV y.1.cls i y' 4) (d : St y pc (.invokevirtual i) 3 n) (hk : kd k = c) (hc : (vwCl[c]?).map (fun q => q.1) = some y'.1.cls) (h : CT κ r' y' (rv κ k :: [a0, a1, a2, a3]) (wM κ M) (fun v w' => WP κ r y n L (psh v st) w' (ct.1 + r'.2.1, ct.2 + r'.2.2) Q)) (lv : Lev r r' ct) (hcat : (st.map fun v => v.category).sum ≤ 8) : WP κ r y pc L (a3 :: a2 :: a1 :: a0 :: rv κ k :: st) (wM κ M) ct Q := wp_callV (As := [a0, a1, a2, a3]) f d hk hc lv rfl rfl hcat h
theorem wp_callS_5 {i : Nat} {a0 a1 a2 a3 a4 : Value} (f : CS y.1.cls i y' 5) (d : St y pc (.invokestatic i) 3 n) (h : CT κ r' y' [a0, a1, a2, a3, a4] w (fun v w' => WP κ r y n L (psh v st) w' (ct.1 + r'.2.1, ct.2 + r'.2.2) Q)) (lv : Lev r r' ct) (hcat : (st.map fun v => v.category).sum ≤ 8) : WP κ r y pc L (a4 :: a3 :: a2 :: a1 :: a0 :: st) w ct Q := wp_callS f d lv rfl rfl hcat h
theorem wp_callSN_5 {i : Nat} {a0 a1 a2 a3 a4 : Value} (f : NS y.1.cls i y' 5) (d : St y pc (.invokestatic i) 3 n) (h : CT κ r' y' [a0, a1, a2, a3, a4] w (fun v w' => WP κ r y n L (psh v st) w' (ct.1 + r'.2.1, ct.2 + r'.2.2) Q)) (lv : Lev r r' ct) (hcat : (st.map fun v => v.category).sum ≤ 8) : WP κ r y pc L (a4 :: a3 :: a2 :: a1 :: a0 :: st) w ct Q := wp_callSN f d lv rfl rfl hcat h
theorem wp_callI_5 {i a : Nat} {a0 a1 a2 a3 a4 : Value} (f : CI y.1.cls i y' 5) (d : St y pc (.invokespecial i) 3 n) (h : CT κ r' y' (.ref a :: [a0, a1, a2, a3, a4]) w (fun v w' => WP κ r y n L (psh v st) w' (ct.1 + r'.2.1, ct.2 + r'.2.2) Q)) (lv : Lev r r' ct) (hcat : (st.map fun v => v.category).sum ≤ 8) : WP κ r y pc L (a4 :: a3 :: a2 :: a1 :: a0 :: .ref a :: st) w ct Q := wp_callI (As := [a0, a1, a2, a3, a4]) f d lv rfl rfl hcat h
theorem wp_callIN_5 {i a : Nat} {a0 a1 a2 a3 a4 : Value} (f : NI y.1.cls i y' 5) (d : St y pc (.invokespecial i) 3 n) (h : CT κ r' y' (.ref a :: [a0, a1, a2, a3, a4]) w (fun v w' => WP κ r y n L (psh v st) w' (ct.1 + r'.2.1, ct.2 + r'.2.2) Q)) (lv : Lev r r' ct) (hcat : (st.map fun v => v.category).sum ≤ 8) : WP κ r y pc L (a4 :: a3 :: a2 :: a1 :: a0 :: .ref a :: st) w ct Q := wp_callIN (As := [a0, a1, a2, a3, a4]) f d lv rfl rfl hcat h
theorem wp_callV_5 {i k c : Nat} {a0 a1 a2 a3 a4 : Value} (f : CV y.1.cls i y' 5) (d : St y pc (.invokevirtual i) 3 n) (hk : kd k = c) (hc : (vwCl[c]?).map (fun q => q.1) = some y'.1.cls) (h : CT κ r' y' (rv κ k :: [a0, a1, a2, a3, a4]) (wM κ M) (fun v w' => WP κ r y n L (psh v st) w' (ct.1 + r'.2.1, ct.2 + r'.2.2) Q)) (lv : Lev r r' ct) (hcat : (st.map fun v => v.category).sum ≤ 8) : WP κ r y pc L (a4 :: a3 :: a2 :: a1 :: a0 :: rv κ k :: st) (wM κ M) ct Q := wp_callV (As := [a0, a1, a2, a3, a4]) f d hk hc lv rfl rfl hcat h
theorem wp_callS_6 {i : Nat} {a0 a1 a2 a3 a4 a5 : Value} (f : CS y.1.cls i y' 6) (d : St y pc (.invokestatic i) 3 n) (h : CT κ r' y' [a0, a1, a2, a3, a4, a5] w (fun v w' => WP κ r y n L (psh v st) w' (ct.1 + r'.2.1, ct.2 + r'.2.2) Q)) (lv : Lev r r' ct) (hcat : (st.map fun v => v.category).sum ≤ 8) : WP κ r y pc L (a5 :: a4 :: a3 :: a2 :: a1 :: a0 :: st) w ct Q := wp_callS f d lv rfl rfl hcat h
theorem wp_callSN_6 {i : Nat} {a0 a1 a2 a3 a4 a5 : Value} (f : NS y.1.cls i y' 6) (d : St y pc (.invokestatic i) 3 n) (h : CT κ r' y' [a0, a1, a2, a3, a4, a5] w (fun v w' => WP κ r y n L (psh v st) w' (ct.1 + r'.2.1, ct.2 + r'.2.2) Q)) (lv : Lev r r' ct) (hcat : (st.map fun v => v.category).sum ≤ 8) : WP κ r y pc L (a5 :: a4 :: a3 :: a2 :: a1 :: a0 :: st) w ct Q := wp_callSN f d lv rfl rfl hcat h
theorem wp_callI_6 {i a : Nat} {a0 a1 a2 a3 a4 a5 : Value} (f : CI y.1.cls i y' 6) (d : St y pc (.invokespecial i) 3 n) (h : CT κ r' y' (.ref a :: [a0, a1, a2, a3, a4, a5]) w (fun v w' => WP κ r y n L (psh v st) w' (ct.1 + r'.2.1, ct.2 + r'.2.2) Q)) (lv : Lev r r' ct) (hcat : (st.map fun v => v.category).sum ≤ 8) : WP κ r y pc L (a5 :: a4 :: a3 :: a2 :: a1 :: a0 :: .ref a :: st) w ct Q := wp_callI (As := [a0, a1, a2, a3, a4, a5]) f d lv rfl rfl hcat h
theorem wp_callIN_6 {i a : Nat} {a0 a1 a2 a3 a4 a5 : Value} (f : NI y.1.cls i y' 6) (d : St y pc (.invokespecial i) 3 n) (h : CT κ r' y' (.ref a :: [a0, a1, a2, a3, a4, a5]) w (fun v w' => WP κ r y n L (psh v st) w' (ct.1 + r'.2.1, ct.2 + r'.2.2) Q)) (lv : Lev r r' ct) (hcat : (st.map fun v => v.category).sum ≤ 8) : WP κ r y pc L (a5 :: a4 :: a3 :: a2 :: a1 :: a0 :: .ref a :: st) w ct Q := wp_callIN (As := [a0, a1, a2, a3, a4, a5]) f d lv rfl rfl hcat h
theorem wp_callV_6 {i k c : Nat} {a0 a1 a2 a3 a4 a5 : Value} (f : CV y.1.cls i y' 6) (d : St y pc (.invokevirtual i) 3 n) (hk : kd k = c) (hc : (vwCl[c]?).map (fun q => q.1) = some y'.1.cls) (h : CT κ r' y' (rv κ k :: [a0, a1, a2, a3, a4, a5]) (wM κ M) (fun v w' => WP κ r y n L (psh v st) w' (ct.1 + r'.2.1, ct.2 + r'.2.2) Q)) (lv : Lev r r' ct) (hcat : (st.map fun v => v.category).sum ≤ 8) : WP κ r y pc L (a5 :: a4 :: a3 :: a2 :: a1 :: a0 :: rv κ k :: st) (wM κ M) ct Q := wp_callV (As := [a0, a1, a2, a3, a4, a5]) f d hk hc lv rfl rfl hcat h
theorem wp_callS_7 {i : Nat} {a0 a1 a2 a3 a4 a5 a6 : Value} (f : CS y.1.cls i y' 7) (d : St y pc (.invokestatic i) 3 n) (h : CT κ r' y' [a0, a1, a2, a3, a4, a5, a6] w (fun v w' => WP κ r y n L (psh v st) w' (ct.1 + r'.2.1, ct.2 + r'.2.2) Q)) (lv : Lev r r' ct) (hcat : (st.map fun v => v.category).sum ≤ 8) : WP κ r y pc L (a6 :: a5 :: a4 :: a3 :: a2 :: a1 :: a0 :: st) w ct Q := wp_callS f d lv rfl rfl hcat h
theorem wp_callSN_7 {i : Nat} {a0 a1 a2 a3 a4 a5 a6 : Value} (f : NS y.1.cls i y' 7) (d : St y pc (.invokestatic i) 3 n) (h : CT κ r' y' [a0, a1, a2, a3, a4, a5, a6] w (fun v w' => WP κ r y n L (psh v st) w' (ct.1 + r'.2.1, ct.2 + r'.2.2) Q)) (lv : Lev r r' ct) (hcat : (st.map fun v => v.category).sum ≤ 8) : WP κ r y pc L (a6 :: a5 :: a4 :: a3 :: a2 :: a1 :: a0 :: st) w ct Q := wp_callSN f d lv rfl rfl hcat h
theorem wp_callI_7 {i a : Nat} {a0 a1 a2 a3 a4 a5 a6 : Value} (f : CI y.1.cls i y' 7) (d : St y pc (.invokespecial i) 3 n) (h : CT κ r' y' (.ref a :: [a0, a1, a2, a3, a4, a5, a6]) w (fun v w' => WP κ r y n L (psh v st) w' (ct.1 + r'.2.1, ct.2 + r'.2.2) Q)) (lv : Lev r r' ct) (hcat : (st.map fun v => v.category).sum ≤ 8) : WP κ r y pc L (a6 :: a5 :: a4 :: a3 :: a2 :: a1 :: a0 :: .ref a :: st) w ct Q := wp_callI (As := [a0, a1, a2, a3, a4, a5, a6]) f d lv rfl rfl hcat h
theorem wp_callIN_7 {i a : Nat} {a0 a1 a2 a3 a4 a5 a6 : Value} (f : NI y.1.cls i y' 7) (d : St y pc (.invokespecial i) 3 n) (h : CT κ r' y' (.ref a :: [a0, a1, a2, a3, a4, a5, a6]) w (fun v w' => WP κ r y n L (psh v st) w' (ct.1 + r'.2.1, ct.2 + r'.2.2) Q)) (lv : Lev r r' ct) (hcat : (st.map fun v => v.category).sum ≤ 8) : WP κ r y pc L (a6 :: a5 :: a4 :: a3 :: a2 :: a1 :: a0 :: .ref a :: st) w ct Q := wp_callIN (As := [a0, a1, a2, a3, a4, a5, a6]) f d lv rfl rfl hcat h
theorem wp_callV_7 {i k c : Nat} {a0 a1 a2 a3 a4 a5 a6 : Value} (f : CV y.1.cls i y' 7) (d : St y pc (.invokevirtual i) 3 n) (hk : kd k = c) (hc : (vwCl[c]?).map (fun q => q.1) = some y'.1.cls) (h : CT κ r' y' (rv κ k :: [a0, a1, a2, a3, a4, a5, a6]) (wM κ M) (fun v w' => WP κ r y n L (psh v st) w' (ct.1 + r'.2.1, ct.2 + r'.2.2) Q)) (lv : Lev r r' ct) (hcat : (st.map fun v => v.category).sum ≤ 8) : WP κ r y pc L (a6 :: a5 :: a4 :: a3 :: a2 :: a1 :: a0 :: rv κ k :: st) (wM κ M) ct Q := wp_callV (As := [a0, a1, a2, a3, a4, a5, a6]) f d hk hc lv rfl rfl hcat h
end WPV
def AR (k N : Nat) : Prop := kd k = 10 ∧ ln k = N
theorem Qe {Q : Option Value → va_W → Prop} {a a' : Int32} {w w' : va_W} (h : Q (some (.int a)) w) (h1 : a' = a) (h2 : w' = w) : Q (some (.int a')) w' := by subst h1; subst h2; exact h
theorem Qv {Q : Option Value → va_W → Prop} {a : Option Value} {w w' : va_W} (h : Q a w) (h2 : w' = w) : Q a w' := by subst h2; exact h
theorem kd_0 : kd 0 = 6 := rfl
theorem rf_0_0 : rf 0 0 = 1 := rfl
theorem rf_0_1 : rf 0 1 = 51 := rfl
theorem rf_0_3 : rf 0 3 = 101 := rfl
theorem rf_0_4 : rf 0 4 = 106 := rfl
theorem rf_0_5 : rf 0 5 = 111 := rfl
theorem kd_1 : kd 1 = 4 := rfl
theorem rf_1_0 : rf 1 0 = 2 := rfl
theorem rf_1_1 : rf 1 1 = 3 := rfl
theorem rf_1_5 : rf 1 5 = 4 := rfl
theorem rf_1_6 : rf 1 6 = 9 := rfl
theorem kd_2 : kd 2 = 10 := rfl
theorem ln_2 : ln 2 = 6 := rfl
theorem ar_2 : AR 2 6 := ⟨kd_2, ln_2⟩
theorem kd_3 : kd 3 = 10 := rfl
theorem ln_3 : ln 3 = 6 := rfl
theorem ar_3 : AR 3 6 := ⟨kd_3, ln_3⟩
theorem kd_4 : kd 4 = 3 := rfl
theorem rf_4_0 : rf 4 0 = 5 := rfl
theorem rf_4_1 : rf 4 1 = 6 := rfl
theorem rf_4_2 : rf 4 2 = 7 := rfl
theorem rf_4_3 : rf 4 3 = 8 := rfl
theorem kd_5 : kd 5 = 10 := rfl
theorem ln_5 : ln 5 = 5 := rfl
theorem ar_5 : AR 5 5 := ⟨kd_5, ln_5⟩
theorem kd_6 : kd 6 = 10 := rfl
theorem ln_6 : ln 6 = 5 := rfl
theorem ar_6 : AR 6 5 := ⟨kd_6, ln_6⟩
theorem kd_7 : kd 7 = 10 := rfl
theorem ln_7 : ln 7 = 5 := rfl
theorem ar_7 : AR 7 5 := ⟨kd_7, ln_7⟩
theorem kd_8 : kd 8 = 10 := rfl
theorem ln_8 : ln 8 = 6 := rfl
theorem ar_8 : AR 8 6 := ⟨kd_8, ln_8⟩
theorem kd_9 : kd 9 = 1 := rfl
theorem rf_9_0 : rf 9 0 = 10 := rfl
theorem kd_10 : kd 10 = 13 := rfl
theorem ln_10 : ln 10 = 8 := rfl
theorem kd_11 : kd 11 = 3 := rfl
theorem rf_11_0 : rf 11 0 = 12 := rfl
theorem rf_11_1 : rf 11 1 = 13 := rfl
theorem rf_11_2 : rf 11 2 = 14 := rfl
theorem rf_11_3 : rf 11 3 = 15 := rfl
theorem kd_12 : kd 12 = 10 := rfl
theorem ln_12 : ln 12 = 5 := rfl
theorem ar_12 : AR 12 5 := ⟨kd_12, ln_12⟩
theorem kd_13 : kd 13 = 10 := rfl
theorem ln_13 : ln 13 = 5 := rfl
theorem ar_13 : AR 13 5 := ⟨kd_13, ln_13⟩
theorem kd_14 : kd 14 = 10 := rfl
theorem ln_14 : ln 14 = 5 := rfl
theorem ar_14 : AR 14 5 := ⟨kd_14, ln_14⟩
theorem kd_15 : kd 15 = 10 := rfl
theorem ln_15 : ln 15 = 6 := rfl
theorem ar_15 : AR 15 6 := ⟨kd_15, ln_15⟩
theorem kd_16 : kd 16 = 3 := rfl
theorem rf_16_0 : rf 16 0 = 17 := rfl
theorem rf_16_1 : rf 16 1 = 18 := rfl
theorem rf_16_2 : rf 16 2 = 19 := rfl
theorem rf_16_3 : rf 16 3 = 20 := rfl
theorem kd_17 : kd 17 = 10 := rfl
theorem ln_17 : ln 17 = 5 := rfl
theorem ar_17 : AR 17 5 := ⟨kd_17, ln_17⟩
theorem kd_18 : kd 18 = 10 := rfl
theorem ln_18 : ln 18 = 5 := rfl
theorem ar_18 : AR 18 5 := ⟨kd_18, ln_18⟩
theorem kd_19 : kd 19 = 10 := rfl
theorem ln_19 : ln 19 = 5 := rfl
theorem ar_19 : AR 19 5 := ⟨kd_19, ln_19⟩
theorem kd_20 : kd 20 = 10 := rfl
theorem ln_20 : ln 20 = 6 := rfl
theorem ar_20 : AR 20 6 := ⟨kd_20, ln_20⟩
theorem kd_21 : kd 21 = 3 := rfl
theorem rf_21_0 : rf 21 0 = 22 := rfl
theorem rf_21_1 : rf 21 1 = 23 := rfl
theorem rf_21_2 : rf 21 2 = 24 := rfl
theorem rf_21_3 : rf 21 3 = 25 := rfl
theorem kd_22 : kd 22 = 10 := rfl
theorem ln_22 : ln 22 = 5 := rfl
theorem ar_22 : AR 22 5 := ⟨kd_22, ln_22⟩
theorem kd_23 : kd 23 = 10 := rfl
theorem ln_23 : ln 23 = 5 := rfl
theorem ar_23 : AR 23 5 := ⟨kd_23, ln_23⟩
theorem kd_24 : kd 24 = 10 := rfl
theorem ln_24 : ln 24 = 5 := rfl
theorem ar_24 : AR 24 5 := ⟨kd_24, ln_24⟩
theorem kd_25 : kd 25 = 10 := rfl
theorem ln_25 : ln 25 = 6 := rfl
theorem ar_25 : AR 25 6 := ⟨kd_25, ln_25⟩
theorem kd_26 : kd 26 = 3 := rfl
theorem rf_26_0 : rf 26 0 = 27 := rfl
theorem rf_26_1 : rf 26 1 = 28 := rfl
theorem rf_26_2 : rf 26 2 = 29 := rfl
theorem rf_26_3 : rf 26 3 = 30 := rfl
theorem kd_27 : kd 27 = 10 := rfl
theorem ln_27 : ln 27 = 5 := rfl
theorem ar_27 : AR 27 5 := ⟨kd_27, ln_27⟩
theorem kd_28 : kd 28 = 10 := rfl
theorem ln_28 : ln 28 = 5 := rfl
theorem ar_28 : AR 28 5 := ⟨kd_28, ln_28⟩
theorem kd_29 : kd 29 = 10 := rfl
theorem ln_29 : ln 29 = 5 := rfl
theorem ar_29 : AR 29 5 := ⟨kd_29, ln_29⟩
theorem kd_30 : kd 30 = 10 := rfl
theorem ln_30 : ln 30 = 6 := rfl
theorem ar_30 : AR 30 6 := ⟨kd_30, ln_30⟩
theorem kd_31 : kd 31 = 3 := rfl
theorem rf_31_0 : rf 31 0 = 32 := rfl
theorem rf_31_1 : rf 31 1 = 33 := rfl
theorem rf_31_2 : rf 31 2 = 34 := rfl
theorem rf_31_3 : rf 31 3 = 35 := rfl
theorem kd_32 : kd 32 = 10 := rfl
theorem ln_32 : ln 32 = 5 := rfl
theorem ar_32 : AR 32 5 := ⟨kd_32, ln_32⟩
theorem kd_33 : kd 33 = 10 := rfl
theorem ln_33 : ln 33 = 5 := rfl
theorem ar_33 : AR 33 5 := ⟨kd_33, ln_33⟩
theorem kd_34 : kd 34 = 10 := rfl
theorem ln_34 : ln 34 = 5 := rfl
theorem ar_34 : AR 34 5 := ⟨kd_34, ln_34⟩
theorem kd_35 : kd 35 = 10 := rfl
theorem ln_35 : ln 35 = 6 := rfl
theorem ar_35 : AR 35 6 := ⟨kd_35, ln_35⟩
theorem kd_36 : kd 36 = 3 := rfl
theorem rf_36_0 : rf 36 0 = 37 := rfl
theorem rf_36_1 : rf 36 1 = 38 := rfl
theorem rf_36_2 : rf 36 2 = 39 := rfl
theorem rf_36_3 : rf 36 3 = 40 := rfl
theorem kd_37 : kd 37 = 10 := rfl
theorem ln_37 : ln 37 = 5 := rfl
theorem ar_37 : AR 37 5 := ⟨kd_37, ln_37⟩
theorem kd_38 : kd 38 = 10 := rfl
theorem ln_38 : ln 38 = 5 := rfl
theorem ar_38 : AR 38 5 := ⟨kd_38, ln_38⟩
theorem kd_39 : kd 39 = 10 := rfl
theorem ln_39 : ln 39 = 5 := rfl
theorem ar_39 : AR 39 5 := ⟨kd_39, ln_39⟩
theorem kd_40 : kd 40 = 10 := rfl
theorem ln_40 : ln 40 = 6 := rfl
theorem ar_40 : AR 40 6 := ⟨kd_40, ln_40⟩
theorem kd_41 : kd 41 = 3 := rfl
theorem rf_41_0 : rf 41 0 = 42 := rfl
theorem rf_41_1 : rf 41 1 = 43 := rfl
theorem rf_41_2 : rf 41 2 = 44 := rfl
theorem rf_41_3 : rf 41 3 = 45 := rfl
theorem kd_42 : kd 42 = 10 := rfl
theorem ln_42 : ln 42 = 5 := rfl
theorem ar_42 : AR 42 5 := ⟨kd_42, ln_42⟩
theorem kd_43 : kd 43 = 10 := rfl
theorem ln_43 : ln 43 = 5 := rfl
theorem ar_43 : AR 43 5 := ⟨kd_43, ln_43⟩
theorem kd_44 : kd 44 = 10 := rfl
theorem ln_44 : ln 44 = 5 := rfl
theorem ar_44 : AR 44 5 := ⟨kd_44, ln_44⟩
theorem kd_45 : kd 45 = 10 := rfl
theorem ln_45 : ln 45 = 6 := rfl
theorem ar_45 : AR 45 6 := ⟨kd_45, ln_45⟩
theorem kd_46 : kd 46 = 3 := rfl
theorem rf_46_0 : rf 46 0 = 47 := rfl
theorem rf_46_1 : rf 46 1 = 48 := rfl
theorem rf_46_2 : rf 46 2 = 49 := rfl
theorem rf_46_3 : rf 46 3 = 50 := rfl
theorem kd_47 : kd 47 = 10 := rfl
theorem ln_47 : ln 47 = 5 := rfl
theorem ar_47 : AR 47 5 := ⟨kd_47, ln_47⟩
theorem kd_48 : kd 48 = 10 := rfl
theorem ln_48 : ln 48 = 5 := rfl
theorem ar_48 : AR 48 5 := ⟨kd_48, ln_48⟩
theorem kd_49 : kd 49 = 10 := rfl
theorem ln_49 : ln 49 = 5 := rfl
theorem ar_49 : AR 49 5 := ⟨kd_49, ln_49⟩
theorem kd_50 : kd 50 = 10 := rfl
theorem ln_50 : ln 50 = 6 := rfl
theorem ar_50 : AR 50 6 := ⟨kd_50, ln_50⟩
theorem kd_51 : kd 51 = 4 := rfl
theorem rf_51_0 : rf 51 0 = 52 := rfl
theorem rf_51_1 : rf 51 1 = 53 := rfl
theorem rf_51_5 : rf 51 5 = 54 := rfl
theorem rf_51_6 : rf 51 6 = 59 := rfl
theorem kd_52 : kd 52 = 10 := rfl
theorem ln_52 : ln 52 = 6 := rfl
theorem ar_52 : AR 52 6 := ⟨kd_52, ln_52⟩
theorem kd_53 : kd 53 = 10 := rfl
theorem ln_53 : ln 53 = 6 := rfl
theorem ar_53 : AR 53 6 := ⟨kd_53, ln_53⟩
theorem kd_54 : kd 54 = 3 := rfl
theorem rf_54_0 : rf 54 0 = 55 := rfl
theorem rf_54_1 : rf 54 1 = 56 := rfl
theorem rf_54_2 : rf 54 2 = 57 := rfl
theorem rf_54_3 : rf 54 3 = 58 := rfl
theorem kd_55 : kd 55 = 10 := rfl
theorem ln_55 : ln 55 = 5 := rfl
theorem ar_55 : AR 55 5 := ⟨kd_55, ln_55⟩
theorem kd_56 : kd 56 = 10 := rfl
theorem ln_56 : ln 56 = 5 := rfl
theorem ar_56 : AR 56 5 := ⟨kd_56, ln_56⟩
theorem kd_57 : kd 57 = 10 := rfl
theorem ln_57 : ln 57 = 5 := rfl
theorem ar_57 : AR 57 5 := ⟨kd_57, ln_57⟩
theorem kd_58 : kd 58 = 10 := rfl
theorem ln_58 : ln 58 = 6 := rfl
theorem ar_58 : AR 58 6 := ⟨kd_58, ln_58⟩
theorem kd_59 : kd 59 = 1 := rfl
theorem rf_59_0 : rf 59 0 = 60 := rfl
theorem kd_60 : kd 60 = 13 := rfl
theorem ln_60 : ln 60 = 8 := rfl
theorem kd_61 : kd 61 = 3 := rfl
theorem rf_61_0 : rf 61 0 = 62 := rfl
theorem rf_61_1 : rf 61 1 = 63 := rfl
theorem rf_61_2 : rf 61 2 = 64 := rfl
theorem rf_61_3 : rf 61 3 = 65 := rfl
theorem kd_62 : kd 62 = 10 := rfl
theorem ln_62 : ln 62 = 5 := rfl
theorem ar_62 : AR 62 5 := ⟨kd_62, ln_62⟩
theorem kd_63 : kd 63 = 10 := rfl
theorem ln_63 : ln 63 = 5 := rfl
theorem ar_63 : AR 63 5 := ⟨kd_63, ln_63⟩
theorem kd_64 : kd 64 = 10 := rfl
theorem ln_64 : ln 64 = 5 := rfl
theorem ar_64 : AR 64 5 := ⟨kd_64, ln_64⟩
theorem kd_65 : kd 65 = 10 := rfl
theorem ln_65 : ln 65 = 6 := rfl
theorem ar_65 : AR 65 6 := ⟨kd_65, ln_65⟩
theorem kd_66 : kd 66 = 3 := rfl
theorem rf_66_0 : rf 66 0 = 67 := rfl
theorem rf_66_1 : rf 66 1 = 68 := rfl
theorem rf_66_2 : rf 66 2 = 69 := rfl
theorem rf_66_3 : rf 66 3 = 70 := rfl
theorem kd_67 : kd 67 = 10 := rfl
theorem ln_67 : ln 67 = 5 := rfl
theorem ar_67 : AR 67 5 := ⟨kd_67, ln_67⟩
theorem kd_68 : kd 68 = 10 := rfl
theorem ln_68 : ln 68 = 5 := rfl
theorem ar_68 : AR 68 5 := ⟨kd_68, ln_68⟩
theorem kd_69 : kd 69 = 10 := rfl
theorem ln_69 : ln 69 = 5 := rfl
theorem ar_69 : AR 69 5 := ⟨kd_69, ln_69⟩
theorem kd_70 : kd 70 = 10 := rfl
theorem ln_70 : ln 70 = 6 := rfl
theorem ar_70 : AR 70 6 := ⟨kd_70, ln_70⟩
theorem kd_71 : kd 71 = 3 := rfl
theorem rf_71_0 : rf 71 0 = 72 := rfl
theorem rf_71_1 : rf 71 1 = 73 := rfl
theorem rf_71_2 : rf 71 2 = 74 := rfl
theorem rf_71_3 : rf 71 3 = 75 := rfl
theorem kd_72 : kd 72 = 10 := rfl
theorem ln_72 : ln 72 = 5 := rfl
theorem ar_72 : AR 72 5 := ⟨kd_72, ln_72⟩
theorem kd_73 : kd 73 = 10 := rfl
theorem ln_73 : ln 73 = 5 := rfl
theorem ar_73 : AR 73 5 := ⟨kd_73, ln_73⟩
theorem kd_74 : kd 74 = 10 := rfl
theorem ln_74 : ln 74 = 5 := rfl
theorem ar_74 : AR 74 5 := ⟨kd_74, ln_74⟩
theorem kd_75 : kd 75 = 10 := rfl
theorem ln_75 : ln 75 = 6 := rfl
theorem ar_75 : AR 75 6 := ⟨kd_75, ln_75⟩
theorem kd_76 : kd 76 = 3 := rfl
theorem rf_76_0 : rf 76 0 = 77 := rfl
theorem rf_76_1 : rf 76 1 = 78 := rfl
theorem rf_76_2 : rf 76 2 = 79 := rfl
theorem rf_76_3 : rf 76 3 = 80 := rfl
theorem kd_77 : kd 77 = 10 := rfl
theorem ln_77 : ln 77 = 5 := rfl
theorem ar_77 : AR 77 5 := ⟨kd_77, ln_77⟩
theorem kd_78 : kd 78 = 10 := rfl
theorem ln_78 : ln 78 = 5 := rfl
theorem ar_78 : AR 78 5 := ⟨kd_78, ln_78⟩
theorem kd_79 : kd 79 = 10 := rfl
theorem ln_79 : ln 79 = 5 := rfl
theorem ar_79 : AR 79 5 := ⟨kd_79, ln_79⟩
theorem kd_80 : kd 80 = 10 := rfl
theorem ln_80 : ln 80 = 6 := rfl
theorem ar_80 : AR 80 6 := ⟨kd_80, ln_80⟩
theorem kd_81 : kd 81 = 3 := rfl
theorem rf_81_0 : rf 81 0 = 82 := rfl
theorem rf_81_1 : rf 81 1 = 83 := rfl
theorem rf_81_2 : rf 81 2 = 84 := rfl
theorem rf_81_3 : rf 81 3 = 85 := rfl
theorem kd_82 : kd 82 = 10 := rfl
theorem ln_82 : ln 82 = 5 := rfl
theorem ar_82 : AR 82 5 := ⟨kd_82, ln_82⟩
theorem kd_83 : kd 83 = 10 := rfl
theorem ln_83 : ln 83 = 5 := rfl
theorem ar_83 : AR 83 5 := ⟨kd_83, ln_83⟩
theorem kd_84 : kd 84 = 10 := rfl
theorem ln_84 : ln 84 = 5 := rfl
theorem ar_84 : AR 84 5 := ⟨kd_84, ln_84⟩
theorem kd_85 : kd 85 = 10 := rfl
theorem ln_85 : ln 85 = 6 := rfl
theorem ar_85 : AR 85 6 := ⟨kd_85, ln_85⟩
theorem kd_86 : kd 86 = 3 := rfl
theorem rf_86_0 : rf 86 0 = 87 := rfl
theorem rf_86_1 : rf 86 1 = 88 := rfl
theorem rf_86_2 : rf 86 2 = 89 := rfl
theorem rf_86_3 : rf 86 3 = 90 := rfl
theorem kd_87 : kd 87 = 10 := rfl
theorem ln_87 : ln 87 = 5 := rfl
theorem ar_87 : AR 87 5 := ⟨kd_87, ln_87⟩
theorem kd_88 : kd 88 = 10 := rfl
theorem ln_88 : ln 88 = 5 := rfl
theorem ar_88 : AR 88 5 := ⟨kd_88, ln_88⟩
theorem kd_89 : kd 89 = 10 := rfl
theorem ln_89 : ln 89 = 5 := rfl
theorem ar_89 : AR 89 5 := ⟨kd_89, ln_89⟩
theorem kd_90 : kd 90 = 10 := rfl
theorem ln_90 : ln 90 = 6 := rfl
theorem ar_90 : AR 90 6 := ⟨kd_90, ln_90⟩
theorem kd_91 : kd 91 = 3 := rfl
theorem rf_91_0 : rf 91 0 = 92 := rfl
theorem rf_91_1 : rf 91 1 = 93 := rfl
theorem rf_91_2 : rf 91 2 = 94 := rfl
theorem rf_91_3 : rf 91 3 = 95 := rfl
theorem kd_92 : kd 92 = 10 := rfl
theorem ln_92 : ln 92 = 5 := rfl
theorem ar_92 : AR 92 5 := ⟨kd_92, ln_92⟩
theorem kd_93 : kd 93 = 10 := rfl
theorem ln_93 : ln 93 = 5 := rfl
theorem ar_93 : AR 93 5 := ⟨kd_93, ln_93⟩
theorem kd_94 : kd 94 = 10 := rfl
theorem ln_94 : ln 94 = 5 := rfl
theorem ar_94 : AR 94 5 := ⟨kd_94, ln_94⟩
theorem kd_95 : kd 95 = 10 := rfl
theorem ln_95 : ln 95 = 6 := rfl
theorem ar_95 : AR 95 6 := ⟨kd_95, ln_95⟩
theorem kd_96 : kd 96 = 3 := rfl
theorem rf_96_0 : rf 96 0 = 97 := rfl
theorem rf_96_1 : rf 96 1 = 98 := rfl
theorem rf_96_2 : rf 96 2 = 99 := rfl
theorem rf_96_3 : rf 96 3 = 100 := rfl
theorem kd_97 : kd 97 = 10 := rfl
theorem ln_97 : ln 97 = 5 := rfl
theorem ar_97 : AR 97 5 := ⟨kd_97, ln_97⟩
theorem kd_98 : kd 98 = 10 := rfl
theorem ln_98 : ln 98 = 5 := rfl
theorem ar_98 : AR 98 5 := ⟨kd_98, ln_98⟩
theorem kd_99 : kd 99 = 10 := rfl
theorem ln_99 : ln 99 = 5 := rfl
theorem ar_99 : AR 99 5 := ⟨kd_99, ln_99⟩
theorem kd_100 : kd 100 = 10 := rfl
theorem ln_100 : ln 100 = 6 := rfl
theorem ar_100 : AR 100 6 := ⟨kd_100, ln_100⟩
theorem kd_101 : kd 101 = 0 := rfl
theorem rf_101_0 : rf 101 0 = 1 := rfl
theorem rf_101_1 : rf 101 1 = 102 := rfl
theorem rf_101_2 : rf 101 2 = 103 := rfl
theorem rf_101_3 : rf 101 3 = 104 := rfl
theorem rf_101_4 : rf 101 4 = 105 := rfl
theorem kd_102 : kd 102 = 10 := rfl
theorem ln_102 : ln 102 = 5 := rfl
theorem ar_102 : AR 102 5 := ⟨kd_102, ln_102⟩
theorem kd_103 : kd 103 = 10 := rfl
theorem ln_103 : ln 103 = 5 := rfl
theorem ar_103 : AR 103 5 := ⟨kd_103, ln_103⟩
theorem kd_104 : kd 104 = 10 := rfl
theorem ln_104 : ln 104 = 5 := rfl
theorem ar_104 : AR 104 5 := ⟨kd_104, ln_104⟩
theorem kd_105 : kd 105 = 10 := rfl
theorem ln_105 : ln 105 = 5 := rfl
theorem ar_105 : AR 105 5 := ⟨kd_105, ln_105⟩
theorem kd_106 : kd 106 = 5 := rfl
theorem rf_106_0 : rf 106 0 = 107 := rfl
theorem rf_106_2 : rf 106 2 = 108 := rfl
theorem rf_106_3 : rf 106 3 = 109 := rfl
theorem rf_106_4 : rf 106 4 = 110 := rfl
theorem kd_107 : kd 107 = 11 := rfl
theorem ln_107 : ln 107 = 60 := rfl
theorem kd_108 : kd 108 = 10 := rfl
theorem ln_108 : ln 108 = 6 := rfl
theorem ar_108 : AR 108 6 := ⟨kd_108, ln_108⟩
theorem kd_109 : kd 109 = 10 := rfl
theorem ln_109 : ln 109 = 6 := rfl
theorem ar_109 : AR 109 6 := ⟨kd_109, ln_109⟩
theorem kd_110 : kd 110 = 10 := rfl
theorem ln_110 : ln 110 = 5 := rfl
theorem ar_110 : AR 110 5 := ⟨kd_110, ln_110⟩
theorem kd_111 : kd 111 = 14 := rfl
theorem ln_111 : ln 111 = 4 := rfl
theorem kd_112 : kd 112 = 2 := rfl
theorem rf_112_0 : rf 112 0 = 113 := rfl
theorem kd_113 : kd 113 = 12 := rfl
theorem ln_113 : ln 113 = 24 := rfl
theorem kd_114 : kd 114 = 2 := rfl
theorem rf_114_0 : rf 114 0 = 115 := rfl
theorem kd_115 : kd 115 = 12 := rfl
theorem ln_115 : ln 115 = 24 := rfl
theorem kd_116 : kd 116 = 2 := rfl
theorem rf_116_0 : rf 116 0 = 117 := rfl
theorem kd_117 : kd 117 = 12 := rfl
theorem ln_117 : ln 117 = 24 := rfl
theorem kd_118 : kd 118 = 2 := rfl
theorem rf_118_0 : rf 118 0 = 119 := rfl
theorem kd_119 : kd 119 = 12 := rfl
theorem ln_119 : ln 119 = 24 := rfl
theorem kd_120 : kd 120 = 7 := rfl
theorem rf_120_0 : rf 120 0 = 121 := rfl
theorem rf_120_1 : rf 120 1 = 122 := rfl
theorem rf_120_2 : rf 120 2 = 123 := rfl
theorem rf_120_3 : rf 120 3 = 124 := rfl
theorem rf_120_5 : rf 120 5 = 125 := rfl
theorem rf_120_7 : rf 120 7 = 126 := rfl
theorem rf_120_8 : rf 120 8 = 127 := rfl
theorem rf_120_9 : rf 120 9 = 128 := rfl
theorem kd_121 : kd 121 = 10 := rfl
theorem ln_121 : ln 121 = 223 := rfl
theorem ar_121 : AR 121 223 := ⟨kd_121, ln_121⟩
theorem kd_122 : kd 122 = 10 := rfl
theorem ln_122 : ln 122 = 223 := rfl
theorem ar_122 : AR 122 223 := ⟨kd_122, ln_122⟩
theorem kd_123 : kd 123 = 10 := rfl
theorem ln_123 : ln 123 = 223 := rfl
theorem ar_123 : AR 123 223 := ⟨kd_123, ln_123⟩
theorem kd_124 : kd 124 = 10 := rfl
theorem ln_124 : ln 124 = 223 := rfl
theorem ar_124 : AR 124 223 := ⟨kd_124, ln_124⟩
theorem kd_125 : kd 125 = 10 := rfl
theorem ln_125 : ln 125 = 60 := rfl
theorem ar_125 : AR 125 60 := ⟨kd_125, ln_125⟩
theorem kd_126 : kd 126 = 10 := rfl
theorem ln_126 : ln 126 = 4 := rfl
theorem ar_126 : AR 126 4 := ⟨kd_126, ln_126⟩
theorem kd_127 : kd 127 = 10 := rfl
theorem ln_127 : ln 127 = 4 := rfl
theorem ar_127 : AR 127 4 := ⟨kd_127, ln_127⟩
theorem kd_128 : kd 128 = 12 := rfl
theorem ln_128 : ln 128 = 96 := rfl
section WPA
variable {κ : KX} {r : RM} {y : MD} {pc n : Nat} {L : List (Option Value)} {st : List Value} {M : MM} {ct : Nat × Nat} {Q : Option Value → va_W → Prop}
theorem wp_ald {k N j : Nat} {x : Int32} (d : St y pc (.iaload) 1 n) (a : AR k N) (hx : x = nI j) (hj : j < N) (kk : WP κ r y n L (.int (M.1 k j) :: st) (wM κ M) ct Q) : WP κ r y pc L (.int x :: rv κ k :: st) (wM κ M) ct Q := wp_iald d a.1 hx (by rw [a.2]; exact hj) kk
theorem wp_ast {k N j : Nat} {x v : Int32} (d : St y pc (.iastore) 1 n) (a : AR k N) (hx : x = nI j) (hj : j < N) (kk : WP κ r y n L st (wM κ (sI M k j v)) ct Q) : WP κ r y pc L (.int v :: .int x :: rv κ k :: st) (wM κ M) ct Q := wp_iast d a.1 hx (by rw [a.2]; exact hj) kk
end WPA
end
