/-! the relation at the start -/
theorem bgF_y {h : Nat → Int32} {y y' e d : Int32} {j : Nat} : bgF h y' e d j = upd (bgF h y e d) 1 y' j := by
  by_cases h1 : j = 1
  · subst h1
    rw [pk_us, bgF, upd_o (by decide), upd_o (by decide), pk_us]
  · rw [upd_o h1, bgF, bgF]
    by_cases h37 : j = 37
    · subst h37
      rw [pk_us, pk_us]
    · rw [upd_o h37, upd_o h37]
      by_cases h2 : j = 2
      · subst h2
        rw [pk_us, pk_us]
      · rw [upd_o h2, upd_o h2, upd_o h1, upd_o h1]
theorem ini7_121 (M : MM) : (ini7 M).1 121 = bgF (M.1 121) 12 1 1 := rfl
theorem rel_ini : REL (ini7 M00) := by
  refine ⟨0, 12, 0, 0, 0, ?_, ⟨by omega, rfl, rfl, fun i hi => absurd hi (by omega)⟩, fun s hs => ?_, ⟨⟨fun _ => rfl, fun _ => rfl⟩, fun h => absurd rfl h⟩⟩
  · rw [ini7_121]
    exact sr_fr (fun _ _ _ => rfl) (fun j _ => bgF_y) (sr_beg (A := ini7 M00) (k := M00.1 121) (yy := 12) (ea := 1) (dr := 1) ⟨by omega, by omega⟩ rfl rfl rfl ⟨1, by omega, rfl⟩ rfl rfl (by decide) rfl rfl)
  · match s, hs with
    | 0, _ => exact ⟨⟨0, rfl, by omega⟩, Or.inl ⟨rfl, rfl⟩⟩
    | 1, _ => exact ⟨⟨0, rfl, by omega⟩, Or.inl ⟨rfl, rfl⟩⟩
    | 2, _ => exact ⟨⟨0, rfl, by omega⟩, Or.inl ⟨rfl, rfl⟩⟩
    | 3, _ => exact ⟨⟨0, rfl, by omega⟩, Or.inl ⟨rfl, rfl⟩⟩
    | s + 4, h => exact absurd h (by omega)
