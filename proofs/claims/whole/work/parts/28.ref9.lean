/-! the reference: seen -/
def snI (m : Nat → Int64) (g w b : Nat) (h : Nat → Int32) : Nat → (Nat → Int32) × Int32
  | 0 => (h, 1)
  | j + 1 => (goN g (cl (utl (snI m g w b h j).1)) (snI m g w b h j).1, if (snI m g w b h j).2 = 0 then 0 else if ¬ lg_cmp (m (b + j)) (goN g (cl (utl (snI m g w b h j).1)) (snI m g w b h j).1 (22 + w)).toInt64 = 0 then 0 else 1)
theorem snI_fr (m : Nat → Int64) (g w b : Nat) (h : Nat → Int32) (h6 : g ≤ 6) {a : Nat} (h3 : a ≠ 3) (ha : a < 16) : ∀ j, (snI m g w b h j).1 a = h a
  | 0 => rfl
  | j + 1 => by
    show goN g (cl (utl (snI m g w b h j).1)) (snI m g w b h j).1 a = h a
    rw [goN_fr g h6 h3 (by omega)]
    exact snI_fr m g w b h h6 h3 ha j
theorem snI_3 (m : Nat → Int64) (g w b : Nat) (h : Nat → Int32) (h6 : g ≤ 6) {yy ww : Nat} (h1 : h 1 = nI yy) (hw3 : h 3 = nI ww) (y0 : 0 < yy) (y9 : yy ≤ 99) (w9 : ww ≤ 10000) : ∀ j, j ≤ 7 → ∃ v, (snI m g w b h j).1 3 = nI v ∧ v ≤ ww + 100 * j
  | 0, _ => ⟨ww, hw3, Nat.le_refl _⟩
  | j + 1, hj => by
    obtain ⟨v, hv, hle⟩ := snI_3 m g w b h h6 h1 hw3 y0 y9 w9 j (by omega)
    have e1 : (snI m g w b h j).1 1 = nI yy := (snI_fr m g w b h h6 (by decide) (by decide) j).trans h1
    have hmd := Nat.mod_lt v y0
    have e2 : cl (utl (snI m g w b h j).1) = yy - v % yy := by
      rw [utl_N e1 hv y0 y9 (by omega)]
      exact cl_nI (by omega)
    refine ⟨v + (yy - v % yy), ?_, by omega⟩
    show goN g (cl (utl (snI m g w b h j).1)) (snI m g w b h j).1 3 = _
    rw [e2]
    exact goN_3 g h6 _ _ v hv
def snO (m : Nat → Int64) (f : Nat → Int32) (g w b z : Nat) (h : Nat → Int32) : Nat → (Nat → Int32) × Int32 × Int32
  | 0 => (h, 0, -4)
  | q + 1 => ((snI m g w b (upd (lyF f (snO m f g w b z h q).1) (27 + w) (nI q)) z).1, (snO m f g w b z h q).2.1 + (if (snI m g w b (upd (lyF f (snO m f g w b z h q).1) (27 + w) (nI q)) z).2 = 0 then 0 else 1), if (snI m g w b (upd (lyF f (snO m f g w b z h q).1) (27 + w) (nI q)) z).2 = 0 then (snO m f g w b z h q).2.2 else if ¬ (snO m f g w b z h q).2.2 = -4 then (snO m f g w b z h q).2.2 else nI q)
def tSn (M : MM) (m : Nat → Int64) (h : Nat → Int32) (g : Nat) (x y l a b wh : Int32) : (Nat → Int32) × Int32 := if wi x 0 (nI (g - 1) - 1) = 0 then (h, -1) else if bshS y l = 0 then (h, -1) else if wi b 1 6 = 0 then (h, -1) else if wi wh 0 1 = 0 then (h, -1) else if 0 ≤ fnd (M.1 126) (M.1 127) (cl y) l a b then ((snO m (M.1 121) g (cl x) (24 * cl y + cl a) (cl b) h 100).1, if ¬ wh = 0 then (snO m (M.1 121) g (cl x) (24 * cl y + cl a) (cl b) h 100).2.2 else (snO m (M.1 121) g (cl x) (24 * cl y + cl a) (cl b) h 100).2.1) else (h, fnd (M.1 126) (M.1 127) (cl y) l a b)
set_option maxRecDepth 100000 in
set_option maxHeartbeats 4000000 in
theorem l_X7_seen2 {κ : KX} {M : MM} {Q : Option Value → va_W → Prop} {m : Nat → Int64} {h : Nat → Int32} {g yy ww w s a z : Nat} {x3 x6 x7 x8 x9 x10 : Int32} (hg : h 0 = nI g) (h6 : g ≤ 6) (h1 : h 1 = nI yy) (y0 : 0 < yy) (y9 : yy ≤ 99) (hw3 : h 3 = nI ww) (w9 : ww ≤ 10000) (hw : w < 5) (hs : s < 4) (hab : a + z ≤ 24) (hz6 : z ≤ 6) (hx : WP κ (4, 0, 0) mX7_seen 175 [some (rv κ 120), some (.int (nI w)), some (.int (nI s)), some (.int x3), some (.int (nI a)), some (.int (nI z)), some (.int x6), some (.int x7), some (.int x8), some (.int x9), some (.int x10), some (.int (snI m g w (24 * s + a) h z).2), some (.int (nI z))] [] (wM κ (rI (rL M 128 m) 122 (snI m g w (24 * s + a) h z).1)) (0, 0) Q) : ∀ n j, j + n = z → WP κ (4, 0, 0) mX7_seen 97 [some (rv κ 120), some (.int (nI w)), some (.int (nI s)), some (.int x3), some (.int (nI a)), some (.int (nI z)), some (.int x6), some (.int x7), some (.int x8), some (.int x9), some (.int x10), some (.int (snI m g w (24 * s + a) h j).2), some (.int (nI j))] [] (wM κ (rI (rL M 128 m) 122 (snI m g w (24 * s + a) h j).1)) (0, 0) Q := by
  intro n
  induction n with
  | zero =>
    intro j hn
    have hn : j = z := hn
    refine wp_iload_12 dX7_seen_97 ?_
    refine wp_iload_5 dX7_seen_99 ?_
    refine wp_icmp_ge (tgt := 175) dX7_seen_101 rfl (fun c101 => ?_) (fun c101 => absurd (nI_le (by omega) (by omega)) c101)
    subst hn
    exact hx
  | succ n ih =>
    intro j hn
    have e1 : (snI m g w (24 * s + a) h j).1 1 = nI yy := (snI_fr m g w _ h h6 (by decide) (by decide) j).trans h1
    obtain ⟨v, hv, hle⟩ := snI_3 m g w (24 * s + a) h h6 h1 hw3 y0 y9 w9 j (by omega)
    have hmd := Nat.mod_lt v y0
    have hut : utl (snI m g w (24 * s + a) h j).1 = nI (yy - v % yy) := utl_N e1 hv y0 y9 (by omega)
    have hcl : cl (utl (snI m g w (24 * s + a) h j).1) = yy - v % yy := by
      rw [hut]
      exact cl_nI (by omega)
    refine wp_iload_12 dX7_seen_97 ?_
    refine wp_iload_5 dX7_seen_99 ?_
    refine wp_icmp_ge (tgt := 175) dX7_seen_101 rfl (fun c101 => absurd c101 (nI_ge (by omega) (by omega))) (fun c101 => ?_)
    refine wp_rload_0 dX7_seen_104 ?_
    refine wp_rload_0 dX7_seen_105 ?_
    refine wp_getR (t := 122) fX7_13 dX7_seen_106 kd_120 rfl (rf_120_1) ?_
    refine wp_iconst (v := 1) dX7_seen_109 rfl ?_
    refine wp_aldF (j := 1) dX7_seen_110 ar_122 (rfl) (by omega) ?_
    refine wp_rload_0 dX7_seen_111 ?_
    refine wp_getR (t := 122) fX7_13 dX7_seen_112 kd_120 rfl (rf_120_1) ?_
    refine wp_iconst (v := 3) dX7_seen_115 rfl ?_
    refine wp_aldF (j := 3) dX7_seen_116 ar_122 (rfl) (by omega) ?_
    refine wp_rload_0 dX7_seen_117 ?_
    refine wp_getR (t := 122) fX7_13 dX7_seen_118 kd_120 rfl (rf_120_1) ?_
    refine wp_iconst (v := 1) dX7_seen_121 rfl ?_
    refine wp_aldF (j := 1) dX7_seen_122 ar_122 (rfl) (by omega) ?_
    refine wp_irem dX7_seen_123 (gt_ne0 (yy_pos e1 y0 y9)) ?_
    refine wp_isub dX7_seen_124 ?_
    rw [show (snI m g w (24 * s + a) h j).1 1 - ((snI m g w (24 * s + a) h j).1 3 - (snI m g w (24 * s + a) h j).1 3 / (snI m g w (24 * s + a) h j).1 1 * (snI m g w (24 * s + a) h j).1 1) = nI (yy - v % yy) from hut]
    refine wp_callV_1 kX7_187 dX7_seen_125 kd_120 rfl (c_X7_go (M := rL M 128 m) (g := g) (m := yy - v % yy) (h := (snI m g w (24 * s + a) h j).1) ((snI_fr m g w _ h h6 (by decide) (by decide) j).trans hg) h6 (yy_pos e1 y0 y9) (by omega) ?_) ⟨Nat.le_of_ble_eq_true rfl, Nat.le_of_ble_eq_true rfl, Nat.le_of_ble_eq_true rfl⟩ (Nat.le_of_ble_eq_true rfl)
    rw [show goN g (yy - v % yy) (snI m g w (24 * s + a) h j).1 = (goN g (cl (utl (snI m g w (24 * s + a) h j).1)) (snI m g w (24 * s + a) h j).1) by rw [hcl]]
    refine wp_iload_11 dX7_seen_128 ?_
    refine wp_if_eq (tgt := 166) dX7_seen_130 rfl (fun c130 => ?_) (fun c130 => ?_)
    · refine wp_iconst (v := 0) dX7_seen_166 rfl ?_
      refine wp_istore_11 dX7_seen_167 (Nat.le_of_ble_eq_true rfl) rfl ?_
      refine wp_iinc_12 (v := nI (j + 1)) dX7_seen_169 (nI_inc _) (Nat.le_of_ble_eq_true rfl) rfl ?_
      refine wp_goto (tgt := 97) dX7_seen_172 rfl ?_
      have hb := ih (j + 1) (by omega)
      first
        | (rw [show snI m g w (24 * s + a) h (j + 1) = ((goN g (cl (utl (snI m g w (24 * s + a) h j).1)) (snI m g w (24 * s + a) h j).1), 0) from congrArg (Prod.mk (goN g (cl (utl (snI m g w (24 * s + a) h j).1)) (snI m g w (24 * s + a) h j).1)) (if_pos c130)] at hb; exact hb)
        | (rw [show snI m g w (24 * s + a) h (j + 1) = ((goN g (cl (utl (snI m g w (24 * s + a) h j).1)) (snI m g w (24 * s + a) h j).1), 0) from congrArg (Prod.mk (goN g (cl (utl (snI m g w (24 * s + a) h j).1)) (snI m g w (24 * s + a) h j).1)) ((if_neg c130).trans (if_pos c159))] at hb; exact hb)
        | (rw [show snI m g w (24 * s + a) h (j + 1) = ((goN g (cl (utl (snI m g w (24 * s + a) h j).1)) (snI m g w (24 * s + a) h j).1), 1) from congrArg (Prod.mk (goN g (cl (utl (snI m g w (24 * s + a) h j).1)) (snI m g w (24 * s + a) h j).1)) ((if_neg c130).trans (if_neg (fun q => q c159)))] at hb; exact hb)
    · refine wp_rload_0 dX7_seen_133 ?_
      refine wp_getR (t := 128) fX7_31 dX7_seen_134 kd_120 rfl (rf_120_9) ?_
      refine wp_bipush (v := 24) dX7_seen_137 rfl ?_
      refine wp_iload_2 dX7_seen_139 ?_
      refine wp_imul dX7_seen_140 ?_
      refine wp_iload_4 dX7_seen_141 ?_
      refine wp_iadd dX7_seen_143 ?_
      refine wp_iload_12 dX7_seen_144 ?_
      refine wp_iadd dX7_seen_146 ?_
      refine wp_lald (j := (((24 * s) + a) + j)) dX7_seen_147 kd_128 ((congr (congrArg HAdd.hAdd ((congr (congrArg HAdd.hAdd (ix24 s)) (rfl)).trans (nI_add _ _))) (rfl)).trans (nI_add _ _)) (by rw [ln_128]; omega) ?_
      rw [rIL_at]
      refine wp_rload_0 dX7_seen_148 ?_
      refine wp_getR (t := 122) fX7_13 dX7_seen_149 kd_120 rfl (rf_120_1) ?_
      refine wp_bipush (v := 22) dX7_seen_152 rfl ?_
      refine wp_iload_1 dX7_seen_154 ?_
      refine wp_iadd dX7_seen_155 ?_
      refine wp_aldF (j := (22 + w)) dX7_seen_156 ar_122 (nI_add _ _) (by omega) ?_
      refine wp_i2l dX7_seen_157 ?_
      refine wp_lcmp dX7_seen_158 ?_
      refine wp_if_ne (tgt := 166) dX7_seen_159 rfl (fun c159 => ?_) (fun c159 => ?_)
      · refine wp_iconst (v := 0) dX7_seen_166 rfl ?_
        refine wp_istore_11 dX7_seen_167 (Nat.le_of_ble_eq_true rfl) rfl ?_
        refine wp_iinc_12 (v := nI (j + 1)) dX7_seen_169 (nI_inc _) (Nat.le_of_ble_eq_true rfl) rfl ?_
        refine wp_goto (tgt := 97) dX7_seen_172 rfl ?_
        have hb := ih (j + 1) (by omega)
        first
          | (rw [show snI m g w (24 * s + a) h (j + 1) = ((goN g (cl (utl (snI m g w (24 * s + a) h j).1)) (snI m g w (24 * s + a) h j).1), 0) from congrArg (Prod.mk (goN g (cl (utl (snI m g w (24 * s + a) h j).1)) (snI m g w (24 * s + a) h j).1)) (if_pos c130)] at hb; exact hb)
          | (rw [show snI m g w (24 * s + a) h (j + 1) = ((goN g (cl (utl (snI m g w (24 * s + a) h j).1)) (snI m g w (24 * s + a) h j).1), 0) from congrArg (Prod.mk (goN g (cl (utl (snI m g w (24 * s + a) h j).1)) (snI m g w (24 * s + a) h j).1)) ((if_neg c130).trans (if_pos c159))] at hb; exact hb)
          | (rw [show snI m g w (24 * s + a) h (j + 1) = ((goN g (cl (utl (snI m g w (24 * s + a) h j).1)) (snI m g w (24 * s + a) h j).1), 1) from congrArg (Prod.mk (goN g (cl (utl (snI m g w (24 * s + a) h j).1)) (snI m g w (24 * s + a) h j).1)) ((if_neg c130).trans (if_neg (fun q => q c159)))] at hb; exact hb)
      · refine wp_iconst (v := 1) dX7_seen_162 rfl ?_
        refine wp_goto (tgt := 167) dX7_seen_163 rfl ?_
        refine wp_istore_11 dX7_seen_167 (Nat.le_of_ble_eq_true rfl) rfl ?_
        refine wp_iinc_12 (v := nI (j + 1)) dX7_seen_169 (nI_inc _) (Nat.le_of_ble_eq_true rfl) rfl ?_
        refine wp_goto (tgt := 97) dX7_seen_172 rfl ?_
        have hb := ih (j + 1) (by omega)
        first
          | (rw [show snI m g w (24 * s + a) h (j + 1) = ((goN g (cl (utl (snI m g w (24 * s + a) h j).1)) (snI m g w (24 * s + a) h j).1), 0) from congrArg (Prod.mk (goN g (cl (utl (snI m g w (24 * s + a) h j).1)) (snI m g w (24 * s + a) h j).1)) (if_pos c130)] at hb; exact hb)
          | (rw [show snI m g w (24 * s + a) h (j + 1) = ((goN g (cl (utl (snI m g w (24 * s + a) h j).1)) (snI m g w (24 * s + a) h j).1), 0) from congrArg (Prod.mk (goN g (cl (utl (snI m g w (24 * s + a) h j).1)) (snI m g w (24 * s + a) h j).1)) ((if_neg c130).trans (if_pos c159))] at hb; exact hb)
          | (rw [show snI m g w (24 * s + a) h (j + 1) = ((goN g (cl (utl (snI m g w (24 * s + a) h j).1)) (snI m g w (24 * s + a) h j).1), 1) from congrArg (Prod.mk (goN g (cl (utl (snI m g w (24 * s + a) h j).1)) (snI m g w (24 * s + a) h j).1)) ((if_neg c130).trans (if_neg (fun q => q c159)))] at hb; exact hb)
set_option maxRecDepth 100000 in
set_option maxHeartbeats 4000000 in
theorem l_X7_seen {κ : KX} {M : MM} {Q : Option Value → va_W → Prop} {m : Nat → Int64} {h : Nat → Int32} {g yy ww w s a z : Nat} {x3 x6 x7 : Int32} (hg : M.1 121 0 = nI g) (h6 : g ≤ 6) (hy : M.1 121 1 = nI yy) (y0 : 0 < yy) (y9 : yy ≤ 99) (hw3 : M.1 121 3 = nI ww) (w9 : ww ≤ 10000) (hw : w < 5) (hs : s < 4) (hab : a + z ≤ 24) (hz6 : z ≤ 6) (hx : ∀ o11 o12, WP κ (4, 0, 0) mX7_seen 217 [some (rv κ 120), some (.int (nI w)), some (.int (nI s)), some (.int x3), some (.int (nI a)), some (.int (nI z)), some (.int x6), some (.int x7), some (.int (snO m (M.1 121) g w (24 * s + a) z h 100).2.1), some (.int (snO m (M.1 121) g w (24 * s + a) z h 100).2.2), some (.int (nI 100)), o11, o12] [] (wM κ (rI (rL M 128 m) 122 (snO m (M.1 121) g w (24 * s + a) z h 100).1)) (0, 0) Q) : ∀ n j, j + n = 100 → ∀ o11 o12, WP κ (4, 0, 0) mX7_seen 69 [some (rv κ 120), some (.int (nI w)), some (.int (nI s)), some (.int x3), some (.int (nI a)), some (.int (nI z)), some (.int x6), some (.int x7), some (.int (snO m (M.1 121) g w (24 * s + a) z h j).2.1), some (.int (snO m (M.1 121) g w (24 * s + a) z h j).2.2), some (.int (nI j)), o11, o12] [] (wM κ (rI (rL M 128 m) 122 (snO m (M.1 121) g w (24 * s + a) z h j).1)) (0, 0) Q := by
  intro n
  induction n with
  | zero =>
    intro j hn o11 o12
    have hn : j = 100 := hn
    subst hn
    refine wp_iload_10 dX7_seen_69 ?_
    refine wp_bipush (v := 100) dX7_seen_71 rfl ?_
    refine wp_icmp_ge (tgt := 217) dX7_seen_73 rfl (fun c73 => ?_) (fun c73 => absurd (nI_le (a := 100) (b := 100) (by omega) (by omega)) c73)
    exact hx _ _
  | succ n ih =>
    intro j hn o11 o12
    refine wp_iload_10 dX7_seen_69 ?_
    refine wp_bipush (v := 100) dX7_seen_71 rfl ?_
    refine wp_icmp_ge (tgt := 217) dX7_seen_73 rfl (fun c73 => absurd c73 (nI_ge (b := 100) (by omega) (by omega))) (fun c73 => ?_)
    refine wp_rload_0 dX7_seen_76 ?_
    refine wp_callV_0 kX7_184 dX7_seen_77 kd_120 rfl (c_X7_layAside (M := rL M 128 m) ?_) ⟨Nat.le_of_ble_eq_true rfl, Nat.le_of_ble_eq_true rfl, Nat.le_of_ble_eq_true rfl⟩ (Nat.le_of_ble_eq_true rfl)
    refine wp_rload_0 dX7_seen_80 ?_
    refine wp_getR (t := 122) fX7_13 dX7_seen_81 kd_120 rfl (rf_120_1) ?_
    refine wp_bipush (v := 27) dX7_seen_84 rfl ?_
    refine wp_iload_1 dX7_seen_86 ?_
    refine wp_iadd dX7_seen_87 ?_
    refine wp_iload_10 dX7_seen_88 ?_
    refine wp_astF (j := (27 + w)) dX7_seen_90 ar_122 (nI_add _ _) (by omega) ?_
    refine wp_iconst (v := 1) dX7_seen_91 rfl ?_
    refine wp_istore_11 dX7_seen_92 (Nat.le_of_ble_eq_true rfl) rfl ?_
    refine wp_iconst (v := 0) dX7_seen_94 rfl ?_
    refine wp_istore_12 dX7_seen_95 (Nat.le_of_ble_eq_true rfl) rfl ?_
    refine l_X7_seen2 (m := m) (h := (upd (lyF (M.1 121) (snO m (M.1 121) g w (24 * s + a) z h j).1) (27 + w) (nI j))) (g := g) (yy := yy) (ww := ww) (w := w) (s := s) (a := a) (z := z) (by rw [upd_o (by omega), lyF_in _ _ (by decide)]; exact hg) h6 (by rw [upd_o (by omega), lyF_in _ _ (by decide)]; exact hy) y0 y9 (by rw [upd_o (by omega), lyF_in _ _ (by decide)]; exact hw3) w9 hw hs hab hz6 ?_ z 0 (by omega)
    refine wp_iload_8 dX7_seen_175 ?_
    refine wp_iload_11 dX7_seen_177 ?_
    refine wp_if_eq (tgt := 186) dX7_seen_179 rfl (fun c179 => ?_) (fun c179 => ?_)
    · refine wp_iconst (v := 0) dX7_seen_186 rfl ?_
      refine wp_iadd dX7_seen_187 ?_
      refine wp_istore_8 dX7_seen_188 (Nat.le_of_ble_eq_true rfl) rfl ?_
      refine wp_iload_11 dX7_seen_190 ?_
      refine wp_if_eq (tgt := 207) dX7_seen_192 rfl (fun c192 => ?_) (fun c192 => ?_)
      · refine wp_iload_9 dX7_seen_207 ?_
        refine wp_istore_9 dX7_seen_209 (Nat.le_of_ble_eq_true rfl) rfl ?_
        refine wp_iinc_10 (v := nI (j + 1)) dX7_seen_211 (nI_inc _) (Nat.le_of_ble_eq_true rfl) rfl ?_
        refine wp_goto (tgt := 69) dX7_seen_214 rfl ?_
        have hb := ih (j + 1) (by omega)
        first
          | (rw [show snO m (M.1 121) g w (24 * s + a) z h (j + 1) = ((snI m g w (24 * s + a) (upd (lyF (M.1 121) (snO m (M.1 121) g w (24 * s + a) z h j).1) (27 + w) (nI j)) z).1, (snO m (M.1 121) g w (24 * s + a) z h j).2.1 + 0, (snO m (M.1 121) g w (24 * s + a) z h j).2.2) from by rw [snO, if_pos c179, if_pos c179]] at hb; exact hb _ _)
          | (rw [show snO m (M.1 121) g w (24 * s + a) z h (j + 1) = ((snI m g w (24 * s + a) (upd (lyF (M.1 121) (snO m (M.1 121) g w (24 * s + a) z h j).1) (27 + w) (nI j)) z).1, (snO m (M.1 121) g w (24 * s + a) z h j).2.1 + 1, (snO m (M.1 121) g w (24 * s + a) z h j).2.2) from by rw [snO, if_neg c179, if_neg c179, if_pos c199]] at hb; exact hb _ _)
          | (rw [show snO m (M.1 121) g w (24 * s + a) z h (j + 1) = ((snI m g w (24 * s + a) (upd (lyF (M.1 121) (snO m (M.1 121) g w (24 * s + a) z h j).1) (27 + w) (nI j)) z).1, (snO m (M.1 121) g w (24 * s + a) z h j).2.1 + 1, nI j) from by rw [snO, if_neg c179, if_neg c179, if_neg (fun q => q c199)]] at hb; exact hb _ _)
          | exact absurd c179 c192
          | exact absurd c192 c179
      · refine wp_iload_9 dX7_seen_195 ?_
        refine wp_bipush (v := (-4)) dX7_seen_197 rfl ?_
        refine wp_icmp_ne (tgt := 207) dX7_seen_199 rfl (fun c199 => ?_) (fun c199 => ?_)
        · refine wp_iload_9 dX7_seen_207 ?_
          refine wp_istore_9 dX7_seen_209 (Nat.le_of_ble_eq_true rfl) rfl ?_
          refine wp_iinc_10 (v := nI (j + 1)) dX7_seen_211 (nI_inc _) (Nat.le_of_ble_eq_true rfl) rfl ?_
          refine wp_goto (tgt := 69) dX7_seen_214 rfl ?_
          have hb := ih (j + 1) (by omega)
          first
            | (rw [show snO m (M.1 121) g w (24 * s + a) z h (j + 1) = ((snI m g w (24 * s + a) (upd (lyF (M.1 121) (snO m (M.1 121) g w (24 * s + a) z h j).1) (27 + w) (nI j)) z).1, (snO m (M.1 121) g w (24 * s + a) z h j).2.1 + 0, (snO m (M.1 121) g w (24 * s + a) z h j).2.2) from by rw [snO, if_pos c179, if_pos c179]] at hb; exact hb _ _)
            | (rw [show snO m (M.1 121) g w (24 * s + a) z h (j + 1) = ((snI m g w (24 * s + a) (upd (lyF (M.1 121) (snO m (M.1 121) g w (24 * s + a) z h j).1) (27 + w) (nI j)) z).1, (snO m (M.1 121) g w (24 * s + a) z h j).2.1 + 1, (snO m (M.1 121) g w (24 * s + a) z h j).2.2) from by rw [snO, if_neg c179, if_neg c179, if_pos c199]] at hb; exact hb _ _)
            | (rw [show snO m (M.1 121) g w (24 * s + a) z h (j + 1) = ((snI m g w (24 * s + a) (upd (lyF (M.1 121) (snO m (M.1 121) g w (24 * s + a) z h j).1) (27 + w) (nI j)) z).1, (snO m (M.1 121) g w (24 * s + a) z h j).2.1 + 1, nI j) from by rw [snO, if_neg c179, if_neg c179, if_neg (fun q => q c199)]] at hb; exact hb _ _)
            | exact absurd c179 c192
            | exact absurd c192 c179
        · refine wp_iload_10 dX7_seen_202 ?_
          refine wp_goto (tgt := 209) dX7_seen_204 rfl ?_
          refine wp_istore_9 dX7_seen_209 (Nat.le_of_ble_eq_true rfl) rfl ?_
          refine wp_iinc_10 (v := nI (j + 1)) dX7_seen_211 (nI_inc _) (Nat.le_of_ble_eq_true rfl) rfl ?_
          refine wp_goto (tgt := 69) dX7_seen_214 rfl ?_
          have hb := ih (j + 1) (by omega)
          first
            | (rw [show snO m (M.1 121) g w (24 * s + a) z h (j + 1) = ((snI m g w (24 * s + a) (upd (lyF (M.1 121) (snO m (M.1 121) g w (24 * s + a) z h j).1) (27 + w) (nI j)) z).1, (snO m (M.1 121) g w (24 * s + a) z h j).2.1 + 0, (snO m (M.1 121) g w (24 * s + a) z h j).2.2) from by rw [snO, if_pos c179, if_pos c179]] at hb; exact hb _ _)
            | (rw [show snO m (M.1 121) g w (24 * s + a) z h (j + 1) = ((snI m g w (24 * s + a) (upd (lyF (M.1 121) (snO m (M.1 121) g w (24 * s + a) z h j).1) (27 + w) (nI j)) z).1, (snO m (M.1 121) g w (24 * s + a) z h j).2.1 + 1, (snO m (M.1 121) g w (24 * s + a) z h j).2.2) from by rw [snO, if_neg c179, if_neg c179, if_pos c199]] at hb; exact hb _ _)
            | (rw [show snO m (M.1 121) g w (24 * s + a) z h (j + 1) = ((snI m g w (24 * s + a) (upd (lyF (M.1 121) (snO m (M.1 121) g w (24 * s + a) z h j).1) (27 + w) (nI j)) z).1, (snO m (M.1 121) g w (24 * s + a) z h j).2.1 + 1, nI j) from by rw [snO, if_neg c179, if_neg c179, if_neg (fun q => q c199)]] at hb; exact hb _ _)
            | exact absurd c179 c192
            | exact absurd c192 c179
    · refine wp_iconst (v := 1) dX7_seen_182 rfl ?_
      refine wp_goto (tgt := 187) dX7_seen_183 rfl ?_
      refine wp_iadd dX7_seen_187 ?_
      refine wp_istore_8 dX7_seen_188 (Nat.le_of_ble_eq_true rfl) rfl ?_
      refine wp_iload_11 dX7_seen_190 ?_
      refine wp_if_eq (tgt := 207) dX7_seen_192 rfl (fun c192 => ?_) (fun c192 => ?_)
      · refine wp_iload_9 dX7_seen_207 ?_
        refine wp_istore_9 dX7_seen_209 (Nat.le_of_ble_eq_true rfl) rfl ?_
        refine wp_iinc_10 (v := nI (j + 1)) dX7_seen_211 (nI_inc _) (Nat.le_of_ble_eq_true rfl) rfl ?_
        refine wp_goto (tgt := 69) dX7_seen_214 rfl ?_
        have hb := ih (j + 1) (by omega)
        first
          | (rw [show snO m (M.1 121) g w (24 * s + a) z h (j + 1) = ((snI m g w (24 * s + a) (upd (lyF (M.1 121) (snO m (M.1 121) g w (24 * s + a) z h j).1) (27 + w) (nI j)) z).1, (snO m (M.1 121) g w (24 * s + a) z h j).2.1 + 0, (snO m (M.1 121) g w (24 * s + a) z h j).2.2) from by rw [snO, if_pos c179, if_pos c179]] at hb; exact hb _ _)
          | (rw [show snO m (M.1 121) g w (24 * s + a) z h (j + 1) = ((snI m g w (24 * s + a) (upd (lyF (M.1 121) (snO m (M.1 121) g w (24 * s + a) z h j).1) (27 + w) (nI j)) z).1, (snO m (M.1 121) g w (24 * s + a) z h j).2.1 + 1, (snO m (M.1 121) g w (24 * s + a) z h j).2.2) from by rw [snO, if_neg c179, if_neg c179, if_pos c199]] at hb; exact hb _ _)
          | (rw [show snO m (M.1 121) g w (24 * s + a) z h (j + 1) = ((snI m g w (24 * s + a) (upd (lyF (M.1 121) (snO m (M.1 121) g w (24 * s + a) z h j).1) (27 + w) (nI j)) z).1, (snO m (M.1 121) g w (24 * s + a) z h j).2.1 + 1, nI j) from by rw [snO, if_neg c179, if_neg c179, if_neg (fun q => q c199)]] at hb; exact hb _ _)
          | exact absurd c179 c192
          | exact absurd c192 c179
      · refine wp_iload_9 dX7_seen_195 ?_
        refine wp_bipush (v := (-4)) dX7_seen_197 rfl ?_
        refine wp_icmp_ne (tgt := 207) dX7_seen_199 rfl (fun c199 => ?_) (fun c199 => ?_)
        · refine wp_iload_9 dX7_seen_207 ?_
          refine wp_istore_9 dX7_seen_209 (Nat.le_of_ble_eq_true rfl) rfl ?_
          refine wp_iinc_10 (v := nI (j + 1)) dX7_seen_211 (nI_inc _) (Nat.le_of_ble_eq_true rfl) rfl ?_
          refine wp_goto (tgt := 69) dX7_seen_214 rfl ?_
          have hb := ih (j + 1) (by omega)
          first
            | (rw [show snO m (M.1 121) g w (24 * s + a) z h (j + 1) = ((snI m g w (24 * s + a) (upd (lyF (M.1 121) (snO m (M.1 121) g w (24 * s + a) z h j).1) (27 + w) (nI j)) z).1, (snO m (M.1 121) g w (24 * s + a) z h j).2.1 + 0, (snO m (M.1 121) g w (24 * s + a) z h j).2.2) from by rw [snO, if_pos c179, if_pos c179]] at hb; exact hb _ _)
            | (rw [show snO m (M.1 121) g w (24 * s + a) z h (j + 1) = ((snI m g w (24 * s + a) (upd (lyF (M.1 121) (snO m (M.1 121) g w (24 * s + a) z h j).1) (27 + w) (nI j)) z).1, (snO m (M.1 121) g w (24 * s + a) z h j).2.1 + 1, (snO m (M.1 121) g w (24 * s + a) z h j).2.2) from by rw [snO, if_neg c179, if_neg c179, if_pos c199]] at hb; exact hb _ _)
            | (rw [show snO m (M.1 121) g w (24 * s + a) z h (j + 1) = ((snI m g w (24 * s + a) (upd (lyF (M.1 121) (snO m (M.1 121) g w (24 * s + a) z h j).1) (27 + w) (nI j)) z).1, (snO m (M.1 121) g w (24 * s + a) z h j).2.1 + 1, nI j) from by rw [snO, if_neg c179, if_neg c179, if_neg (fun q => q c199)]] at hb; exact hb _ _)
            | exact absurd c179 c192
            | exact absurd c192 c179
        · refine wp_iload_10 dX7_seen_202 ?_
          refine wp_goto (tgt := 209) dX7_seen_204 rfl ?_
          refine wp_istore_9 dX7_seen_209 (Nat.le_of_ble_eq_true rfl) rfl ?_
          refine wp_iinc_10 (v := nI (j + 1)) dX7_seen_211 (nI_inc _) (Nat.le_of_ble_eq_true rfl) rfl ?_
          refine wp_goto (tgt := 69) dX7_seen_214 rfl ?_
          have hb := ih (j + 1) (by omega)
          first
            | (rw [show snO m (M.1 121) g w (24 * s + a) z h (j + 1) = ((snI m g w (24 * s + a) (upd (lyF (M.1 121) (snO m (M.1 121) g w (24 * s + a) z h j).1) (27 + w) (nI j)) z).1, (snO m (M.1 121) g w (24 * s + a) z h j).2.1 + 0, (snO m (M.1 121) g w (24 * s + a) z h j).2.2) from by rw [snO, if_pos c179, if_pos c179]] at hb; exact hb _ _)
            | (rw [show snO m (M.1 121) g w (24 * s + a) z h (j + 1) = ((snI m g w (24 * s + a) (upd (lyF (M.1 121) (snO m (M.1 121) g w (24 * s + a) z h j).1) (27 + w) (nI j)) z).1, (snO m (M.1 121) g w (24 * s + a) z h j).2.1 + 1, (snO m (M.1 121) g w (24 * s + a) z h j).2.2) from by rw [snO, if_neg c179, if_neg c179, if_pos c199]] at hb; exact hb _ _)
            | (rw [show snO m (M.1 121) g w (24 * s + a) z h (j + 1) = ((snI m g w (24 * s + a) (upd (lyF (M.1 121) (snO m (M.1 121) g w (24 * s + a) z h j).1) (27 + w) (nI j)) z).1, (snO m (M.1 121) g w (24 * s + a) z h j).2.1 + 1, nI j) from by rw [snO, if_neg c179, if_neg c179, if_neg (fun q => q c199)]] at hb; exact hb _ _)
            | exact absurd c179 c192
            | exact absurd c192 c179
set_option maxRecDepth 100000 in
set_option maxHeartbeats 4000000 in
theorem c_X7_seen {κ : KX} {M : MM} {Q : Option Value → va_W → Prop} {m : Nat → Int64} {h : Nat → Int32} {g yy ww : Nat} {x y l a b wh : Int32} (hg : M.1 121 0 = nI g) (h6 : g ≤ 6) (hy : M.1 121 1 = nI yy) (y0 : 0 < yy) (y9 : yy ≤ 99) (hw3 : M.1 121 3 = nI ww) (w9 : ww ≤ 10000) (hN : ∀ s, s < 4 → M.1 127 s ≤ 24) (hQ : Q (some (.int (tSn M m h g x y l a b wh).2)) (wM κ (rI (rL M 128 m) 122 (tSn M m h g x y l a b wh).1))) : CT κ (4, 0, 0) mX7_seen [rv κ 120, .int x, .int y, .int l, .int a, .int b, .int wh] (wM κ (rI (rL M 128 m) 122 h)) Q := by
  refine CT.of okX7_seen [some (rv κ 120), some (.int x), some (.int y), some (.int l), some (.int a), some (.int b), some (.int wh), none, none, none, none, none, none] (Nat.le_of_ble_eq_true rfl) rfl ?_
  refine wp_rload_0 dX7_seen_0 ?_
  refine wp_iload_1 dX7_seen_1 ?_
  refine wp_callV_1 kX7_83 dX7_seen_2 kd_120 rfl (c_X7_isWall (M := rI (rL M 128 m) 122 h) (by rw [rI_ne _ _ (by decide)]; exact hg) h6 ?_) ⟨Nat.le_of_ble_eq_true rfl, Nat.le_of_ble_eq_true rfl, Nat.le_of_ble_eq_true rfl⟩ (Nat.le_of_ble_eq_true rfl)
  refine wp_if_eq (tgt := 37) dX7_seen_5 rfl (fun c5 => ?_) (fun c5 => ?_)
  · refine wp_iconst (v := (-1)) dX7_seen_37 rfl ?_
    refine wp_iret dX7_seen_38 rfl rfl ?_
    first
      | (rw [tSn, if_pos c5] at hQ; exact hQ)
      | (rw [if_pos c13] at hQ; exact hQ)
      | (rw [if_pos c26] at hQ; exact hQ)
      | (rw [if_neg c26, if_pos c34] at hQ; exact hQ)
  · obtain ⟨w, hw, rfl⟩ := upto_of c5 (by omega)
    rw [tSn, if_neg c5, cl_nI (by omega)] at hQ
    refine wp_iload_2 dX7_seen_8 ?_
    refine wp_iload_3 dX7_seen_9 ?_
    refine wp_callS_2 kX7_203 dX7_seen_10 (c_X7_isSheet ?_) ⟨Nat.le_of_ble_eq_true rfl, Nat.le_of_ble_eq_true rfl, Nat.le_of_ble_eq_true rfl⟩ (Nat.le_of_ble_eq_true rfl)
    refine wp_if_eq (tgt := 37) dX7_seen_13 rfl (fun c13 => ?_) (fun c13 => ?_)
    · refine wp_iconst (v := (-1)) dX7_seen_37 rfl ?_
      refine wp_iret dX7_seen_38 rfl rfl ?_
      first
        | (rw [tSn, if_pos c5] at hQ; exact hQ)
        | (rw [if_pos c13] at hQ; exact hQ)
        | (rw [if_pos c26] at hQ; exact hQ)
        | (rw [if_neg c26, if_pos c34] at hQ; exact hQ)
    · obtain ⟨s, hs, rfl, hl4⟩ := bsh_ok c13
      rw [if_neg c13, cl_nI (by omega)] at hQ
      refine wp_iload_5 dX7_seen_16 ?_
      refine wp_i2l dX7_seen_18 ?_
      refine wp_lconst (v := 1) dX7_seen_19 rfl ?_
      refine wp_ldc2 nX7_206 dX7_seen_20 ?_
      refine wp_callS_3 kX7_43 dX7_seen_23 (c_X7_in (lo := 1) (hi := 6) (by decide) (by decide) ?_) ⟨Nat.le_of_ble_eq_true rfl, Nat.le_of_ble_eq_true rfl, Nat.le_of_ble_eq_true rfl⟩ (Nat.le_of_ble_eq_true rfl)
      refine wp_if_eq (tgt := 37) dX7_seen_26 rfl (fun c26 => ?_) (fun c26 => ?_)
      · refine wp_iconst (v := (-1)) dX7_seen_37 rfl ?_
        refine wp_iret dX7_seen_38 rfl rfl ?_
        first
          | (rw [tSn, if_pos c5] at hQ; exact hQ)
          | (rw [if_pos c13] at hQ; exact hQ)
          | (rw [if_pos c26] at hQ; exact hQ)
          | (rw [if_neg c26, if_pos c34] at hQ; exact hQ)
      · refine wp_iload_6 dX7_seen_29 ?_
        refine wp_callS_1 kX7_163 dX7_seen_31 (c_X7_isTwo ?_) ⟨Nat.le_of_ble_eq_true rfl, Nat.le_of_ble_eq_true rfl, Nat.le_of_ble_eq_true rfl⟩ (Nat.le_of_ble_eq_true rfl)
        refine wp_if_ne (tgt := 39) dX7_seen_34 rfl (fun c34 => ?_) (fun c34 => ?_)
        · refine wp_rload_0 dX7_seen_39 ?_
          refine wp_iload_2 dX7_seen_40 ?_
          refine wp_iload_3 dX7_seen_41 ?_
          refine wp_iload_4 dX7_seen_42 ?_
          refine wp_iload_5 dX7_seen_44 ?_
          refine wp_callV_4 kX7_208 dX7_seen_46 kd_120 rfl (c_X7_found (M := rI (rL M 128 m) 122 h) hs ?_) ⟨Nat.le_of_ble_eq_true rfl, Nat.le_of_ble_eq_true rfl, Nat.le_of_ble_eq_true rfl⟩ (Nat.le_of_ble_eq_true rfl)
          rw [rI_ne _ _ (by decide), rI_ne _ _ (by decide), rL_1]
          refine wp_istore_7 dX7_seen_49 (Nat.le_of_ble_eq_true rfl) rfl ?_
          refine wp_iload_7 dX7_seen_51 ?_
          refine wp_if_ge (tgt := 59) dX7_seen_53 rfl (fun c53 => ?_) (fun c53 => ?_)
          · obtain ⟨b0, hb0, hb1, rfl⟩ := rng_of (a := 1) (b := 6) c26 (by decide) (by decide)
            obtain ⟨a2, b2, hab, rfl, hb2⟩ := fnd_ok (hN s hs) (nI_nlt (b := 0) (by omega) (by omega)) c53
            have hb3 : b0 = b2 := (nI_eq (by omega) (by omega)).mp hb2
            subst hb3
            rw [if_neg c26, if_neg c34, if_pos c53, cl_nI (by omega), cl_nI (by omega)] at hQ
            refine wp_iconst (v := 0) dX7_seen_59 rfl ?_
            refine wp_istore_8 dX7_seen_60 (Nat.le_of_ble_eq_true rfl) rfl ?_
            refine wp_bipush (v := (-4)) dX7_seen_62 rfl ?_
            refine wp_istore_9 dX7_seen_64 (Nat.le_of_ble_eq_true rfl) rfl ?_
            refine wp_iconst (v := 0) dX7_seen_66 rfl ?_
            refine wp_istore_10 dX7_seen_67 (Nat.le_of_ble_eq_true rfl) rfl ?_
            refine l_X7_seen (m := m) (h := h) hg h6 hy y0 y9 hw3 w9 (by omega) hs hab hb1 (fun o11 o12 => ?_) 100 0 (by omega) none none
            refine wp_iload_6 dX7_seen_217 ?_
            refine wp_if_ne (tgt := 227) dX7_seen_219 rfl (fun c219 => ?_) (fun c219 => ?_)
            · refine wp_iload_9 dX7_seen_227 ?_
              refine wp_iret dX7_seen_229 rfl rfl ?_
              first
                | (rw [if_pos c219] at hQ; exact hQ)
                | (rw [if_neg (fun q => q c219)] at hQ; exact hQ)
            · refine wp_iload_8 dX7_seen_222 ?_
              refine wp_goto (tgt := 229) dX7_seen_224 rfl ?_
              refine wp_iret dX7_seen_229 rfl rfl ?_
              first
                | (rw [if_pos c219] at hQ; exact hQ)
                | (rw [if_neg (fun q => q c219)] at hQ; exact hQ)
          · refine wp_iload_7 dX7_seen_56 ?_
            refine wp_iret dX7_seen_58 rfl rfl ?_
            rw [if_neg c26, if_neg c34, if_neg c53] at hQ
            exact hQ
        · refine wp_iconst (v := (-1)) dX7_seen_37 rfl ?_
          refine wp_iret dX7_seen_38 rfl rfl ?_
          first
            | (rw [tSn, if_pos c5] at hQ; exact hQ)
            | (rw [if_pos c13] at hQ; exact hQ)
            | (rw [if_pos c26] at hQ; exact hQ)
            | (rw [if_neg c26, if_pos c34] at hQ; exact hQ)
