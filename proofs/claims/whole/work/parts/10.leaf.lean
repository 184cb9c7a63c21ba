/-! leaves of the class -/
def wi (v lo hi : Int32) : Int32 := if v < lo then 0 else if hi < v then 0 else 1
theorem wi_nar (v lo hi : Int32) : narrow .boolean (.int (wi v lo hi)) = .int (wi v lo hi) := by
  unfold wi
  split
  · rfl
  · split <;> rfl
def asQ (v : Int32) : Int32 := if (0 : Int32) < (if v < 99 then v else 99) then (if v < 99 then v else 99) else 0
def galP (kind noise courses : Int32) : Int32 := (if kind = 3 then 0 else noise) / 3 + courses / 5
def gal (kind noise courses : Int32) : Int32 := if kind = 1 then 2 * galP kind noise courses else if kind = 4 then 2 * galP kind noise courses + 1 else if kind = 2 then (if 0 < galP kind noise courses then galP kind noise courses - 1 else 0) else if kind = 3 then (if 0 < galP kind noise courses then galP kind noise courses - 1 else 0) else galP kind noise courses
theorem nI_walls {g : Nat} (h : 2 ≤ g) : nI g - 1 = nI (g - 1) := by
  obtain ⟨k, rfl⟩ : ∃ k, g = k + 1 := ⟨g - 1, by omega⟩
  exact nI_pred k
theorem nI_decr (n : Nat) : nI n + Int32.ofInt (-1) = nI n - 1 := by
  rw [Int32.sub_eq_add_neg]; rfl
theorem sw_default {x : Int32} {lo hi : Int} {k : Nat} (h : x.toInt < lo ∨ hi < x.toInt) (h1 : lo ≤ k) (h2 : (k : Int) ≤ hi) (hk : k < 2147483648) : ¬ x = nI k := by
  intro e
  rw [e, nI_toInt hk] at h
  omega
/-- a Standing at k, its rows behind it -/
def Sg (k : Nat) : Prop := kd k = 3 ∧ AR (k + 1) 5 ∧ AR (k + 2) 5 ∧ AR (k + 3) 5 ∧ AR (k + 4) 6
theorem rf_sg {k : Nat} (h : kd k = 3) (j : Nat) : rf k j = k + 1 + j := by simp [rf, h]
theorem sg_4 : Sg 4 := ⟨kd_4, ar_5, ar_6, ar_7, ar_8⟩
theorem sg_54 : Sg 54 := ⟨kd_54, ar_55, ar_56, ar_57, ar_58⟩
theorem sg_all : ∀ i, i < 8 → (kd (11 + 5 * i) = 3 ∧ (kd (11 + 5 * i + 1) = 10 ∧ ln (11 + 5 * i + 1) = 5) ∧ (kd (11 + 5 * i + 2) = 10 ∧ ln (11 + 5 * i + 2) = 5) ∧ (kd (11 + 5 * i + 3) = 10 ∧ ln (11 + 5 * i + 3) = 5) ∧ (kd (11 + 5 * i + 4) = 10 ∧ ln (11 + 5 * i + 4) = 6)) := by decide +kernel
theorem sg_all2 : ∀ i, i < 8 → (kd (61 + 5 * i) = 3 ∧ (kd (61 + 5 * i + 1) = 10 ∧ ln (61 + 5 * i + 1) = 5) ∧ (kd (61 + 5 * i + 2) = 10 ∧ ln (61 + 5 * i + 2) = 5) ∧ (kd (61 + 5 * i + 3) = 10 ∧ ln (61 + 5 * i + 3) = 5) ∧ (kd (61 + 5 * i + 4) = 10 ∧ ln (61 + 5 * i + 4) = 6)) := by decide +kernel
theorem sg_st {i : Nat} (h : i < 8) : Sg (11 + 5 * i) := sg_all i h
theorem sg_kt {i : Nat} (h : i < 8) : Sg (61 + 5 * i) := sg_all2 i h
theorem sI_same (M : MM) (k j : Nat) (v : Int32) : (sI M k j v).1 k j = v := by simp [sI, upd]
theorem gt_ne0 {y : Int32} (h : 0 < y) : ¬ y = 0 := fun e => by rw [e] at h; exact absurd h (by decide)
set_option maxRecDepth 100000 in
set_option maxHeartbeats 4000000 in
theorem c_X6_within {κ : KX} {M : MM} {Q : Option Value → va_W → Prop} {v lo hi : Int32}  (hQ : Q (some (.int (wi v lo hi))) (wM κ (M))) : CT κ (0, 0, 0) mX6_within [.int v, .int lo, .int hi] (wM κ M) Q := by
  refine CT.of okX6_within [some (.int v), some (.int lo), some (.int hi)] (Nat.le_of_ble_eq_true rfl) rfl ?_
  refine wp_iload_0 dX6_within_0 ?_
  refine wp_iload_1 dX6_within_1 ?_
  refine wp_icmp_lt (tgt := 14) dX6_within_2 rfl (fun c2 => ?_) (fun c2 => ?_)
  · refine wp_iconst (v := 0) dX6_within_14 rfl ?_
    refine wp_zret dX6_within_15 rfl rfl rfl ?_
    exact Qe hQ (by simp [wi, *]) rfl
  · refine wp_iload_0 dX6_within_5 ?_
    refine wp_iload_2 dX6_within_6 ?_
    refine wp_icmp_gt (tgt := 14) dX6_within_7 rfl (fun c7 => ?_) (fun c7 => ?_)
    · refine wp_iconst (v := 0) dX6_within_14 rfl ?_
      refine wp_zret dX6_within_15 rfl rfl rfl ?_
      exact Qe hQ (by simp [wi, *]) rfl
    · refine wp_iconst (v := 1) dX6_within_10 rfl ?_
      refine wp_goto (tgt := 15) dX6_within_11 rfl ?_
      refine wp_zret dX6_within_15 rfl rfl rfl ?_
      exact Qe hQ (by simp [wi, *]) rfl
set_option maxRecDepth 100000 in
set_option maxHeartbeats 4000000 in
theorem c_X6_asQuarrel {κ : KX} {M : MM} {Q : Option Value → va_W → Prop} {v : Int32}  (hQ : Q (some (.int (asQ v))) (wM κ (M))) : CT κ (1, 0, 0) mX6_asQuarrel [.int v] (wM κ M) Q := by
  refine CT.of okX6_asQuarrel [some (.int v)] (Nat.le_of_ble_eq_true rfl) rfl ?_
  refine wp_iconst (v := 0) dX6_asQuarrel_0 rfl ?_
  refine wp_bipush (v := 99) dX6_asQuarrel_1 rfl ?_
  refine wp_iload_0 dX6_asQuarrel_3 ?_
  refine wp_min kX6_257 dX6_asQuarrel_4 ⟨Nat.le_of_ble_eq_true rfl, Nat.le_of_ble_eq_true rfl, Nat.le_of_ble_eq_true rfl⟩ (Nat.le_of_ble_eq_true rfl) ?_
  refine wp_max kX6_262 dX6_asQuarrel_7 ⟨Nat.le_of_ble_eq_true rfl, Nat.le_of_ble_eq_true rfl, Nat.le_of_ble_eq_true rfl⟩ (Nat.le_of_ble_eq_true rfl) ?_
  refine wp_iret dX6_asQuarrel_10 rfl rfl ?_
  exact hQ
set_option maxRecDepth 100000 in
set_option maxHeartbeats 4000000 in
theorem c_X6_coursesFor {κ : KX} {M : MM} {Q : Option Value → va_W → Prop} {v : Int32}  (hQ : Q (some (.int (v / 5))) (wM κ (M))) : CT κ (0, 0, 0) mX6_coursesFor [.int v] (wM κ M) Q := by
  refine CT.of okX6_coursesFor [some (.int v)] (Nat.le_of_ble_eq_true rfl) rfl ?_
  refine wp_iload_0 dX6_coursesFor_0 ?_
  refine wp_iconst (v := 5) dX6_coursesFor_1 rfl ?_
  refine wp_idiv dX6_coursesFor_2 (by decide) ?_
  refine wp_iret dX6_coursesFor_3 rfl rfl ?_
  exact hQ
set_option maxRecDepth 100000 in
set_option maxHeartbeats 4000000 in
theorem c_X6_lessAThird {κ : KX} {M : MM} {Q : Option Value → va_W → Prop} {v : Int32}  (hQ : Q (some (.int (v - v / 3))) (wM κ (M))) : CT κ (0, 0, 0) mX6_lessAThird [.int v] (wM κ M) Q := by
  refine CT.of okX6_lessAThird [some (.int v)] (Nat.le_of_ble_eq_true rfl) rfl ?_
  refine wp_iload_0 dX6_lessAThird_0 ?_
  refine wp_iload_0 dX6_lessAThird_1 ?_
  refine wp_iconst (v := 3) dX6_lessAThird_2 rfl ?_
  refine wp_idiv dX6_lessAThird_3 (by decide) ?_
  refine wp_isub dX6_lessAThird_4 ?_
  refine wp_iret dX6_lessAThird_5 rfl rfl ?_
  exact hQ
set_option maxRecDepth 100000 in
set_option maxHeartbeats 4000000 in
theorem c_X6_isSheet {κ : KX} {M : MM} {Q : Option Value → va_W → Prop} {v : Int32}  (hQ : Q (some (.int (wi v 0 3))) (wM κ (M))) : CT κ (1, 0, 0) mX6_isSheet [.int v] (wM κ M) Q := by
  refine CT.of okX6_isSheet [some (.int v)] (Nat.le_of_ble_eq_true rfl) rfl ?_
  refine wp_iload_0 dX6_isSheet_0 ?_
  refine wp_iconst (v := 0) dX6_isSheet_1 rfl ?_
  refine wp_iconst (v := 3) dX6_isSheet_2 rfl ?_
  refine wp_callS_3 kX6_46 dX6_isSheet_3 (c_X6_within ?_) ⟨Nat.le_of_ble_eq_true rfl, Nat.le_of_ble_eq_true rfl, Nat.le_of_ble_eq_true rfl⟩ (Nat.le_of_ble_eq_true rfl)
  refine wp_zret dX6_isSheet_6 rfl (wi_nar _ _ _) rfl ?_
  exact hQ
set_option maxRecDepth 100000 in
set_option maxHeartbeats 4000000 in
theorem c_X6_isLane {κ : KX} {M : MM} {Q : Option Value → va_W → Prop} {v : Int32}  (hQ : Q (some (.int (wi v 0 3))) (wM κ (M))) : CT κ (1, 0, 0) mX6_isLane [.int v] (wM κ M) Q := by
  refine CT.of okX6_isLane [some (.int v)] (Nat.le_of_ble_eq_true rfl) rfl ?_
  refine wp_iload_0 dX6_isLane_0 ?_
  refine wp_iconst (v := 0) dX6_isLane_1 rfl ?_
  refine wp_iconst (v := 3) dX6_isLane_2 rfl ?_
  refine wp_callS_3 kX6_46 dX6_isLane_3 (c_X6_within ?_) ⟨Nat.le_of_ble_eq_true rfl, Nat.le_of_ble_eq_true rfl, Nat.le_of_ble_eq_true rfl⟩ (Nat.le_of_ble_eq_true rfl)
  refine wp_zret dX6_isLane_6 rfl (wi_nar _ _ _) rfl ?_
  exact hQ
set_option maxRecDepth 100000 in
set_option maxHeartbeats 4000000 in
theorem c_X4_galls {κ : KX} {M : MM} {Q : Option Value → va_W → Prop} {kq0 ns co : Int32}  (hQ : Q (some (.int (gal kq0 ns co))) (wM κ (M))) : CT κ (0, 0, 0) mX4_galls [.int kq0, .int ns, .int co] (wM κ M) Q := by
  refine CT.of okX4_galls [some (.int kq0), some (.int ns), some (.int co), none, none] (Nat.le_of_ble_eq_true rfl) rfl ?_
  refine wp_iload_0 dX4_galls_0 ?_
  refine wp_iconst (v := 3) dX4_galls_1 rfl ?_
  refine wp_icmp_ne (tgt := 9) dX4_galls_2 rfl (fun c2 => ?_) (fun c2 => ?_)
  · refine wp_iload_1 dX4_galls_9 ?_
    refine wp_istore_3 dX4_galls_10 (Nat.le_of_ble_eq_true rfl) rfl ?_
    refine wp_iload_3 dX4_galls_11 ?_
    refine wp_iconst (v := 3) dX4_galls_12 rfl ?_
    refine wp_idiv dX4_galls_13 (by decide) ?_
    refine wp_iload_2 dX4_galls_14 ?_
    refine wp_iconst (v := 5) dX4_galls_15 rfl ?_
    refine wp_idiv dX4_galls_16 (by decide) ?_
    refine wp_iadd dX4_galls_17 ?_
    refine wp_istore_4 dX4_galls_18 (Nat.le_of_ble_eq_true rfl) rfl ?_
    refine wp_iload_0 dX4_galls_20 ?_
    refine sw_1_4 kq0 (fun hzQ => ?_) (fun hzQ => ?_) (fun hzQ => ?_) (fun hzQ => ?_) (fun hzQ => ?_)
    · subst hzQ
      refine wp_switch dX4_galls_21 52 rfl (fun _ => (Nat.le_of_ble_eq_true rfl)) ?_
      refine wp_iconst (v := 2) dX4_galls_52 rfl ?_
      refine wp_iload_4 dX4_galls_53 ?_
      refine wp_imul dX4_galls_55 ?_
      refine wp_iret dX4_galls_56 rfl rfl ?_
      refine Qe hQ ?_ rfl
      first
        | exact absurd rfl c2
        | exact absurd c2 (by decide)
        | (simp [gal, galP]; done)
        | (simp [gal, galP, c2]; done)
        | (simp [gal, galP]; (try simp at c66); intro h; exact absurd h (Int32.not_lt.mpr c66))
        | (simp [gal, galP]; (try simp at c66); intro h; exact absurd c66 (Int32.not_lt.mpr h))
        | (have e1 : ¬ kq0 = 1 := sw_default (k := 1) hzQ (by decide) (by decide) (by decide)
           have e2 : ¬ kq0 = 2 := sw_default (k := 2) hzQ (by decide) (by decide) (by decide)
           have e3 : ¬ kq0 = 3 := sw_default (k := 3) hzQ (by decide) (by decide) (by decide)
           have e4 : ¬ kq0 = 4 := sw_default (k := 4) hzQ (by decide) (by decide) (by decide)
           simp_all [gal, galP]; done)
    · subst hzQ
      refine wp_switch dX4_galls_21 64 rfl (fun _ => (Nat.le_of_ble_eq_true rfl)) ?_
      refine wp_iload_4 dX4_galls_64 ?_
      refine wp_if_le (tgt := 76) dX4_galls_66 rfl (fun c66 => ?_) (fun c66 => ?_)
      · refine wp_iconst (v := 0) dX4_galls_76 rfl ?_
        refine wp_iret dX4_galls_77 rfl rfl ?_
        refine Qe hQ ?_ rfl
        first
          | exact absurd rfl c2
          | exact absurd c2 (by decide)
          | (simp [gal, galP]; done)
          | (simp [gal, galP, c2]; done)
          | (simp [gal, galP]; (try simp at c66); intro h; exact absurd h (Int32.not_lt.mpr c66))
          | (simp [gal, galP]; (try simp at c66); intro h; exact absurd c66 (Int32.not_lt.mpr h))
          | (have e1 : ¬ kq0 = 1 := sw_default (k := 1) hzQ (by decide) (by decide) (by decide)
             have e2 : ¬ kq0 = 2 := sw_default (k := 2) hzQ (by decide) (by decide) (by decide)
             have e3 : ¬ kq0 = 3 := sw_default (k := 3) hzQ (by decide) (by decide) (by decide)
             have e4 : ¬ kq0 = 4 := sw_default (k := 4) hzQ (by decide) (by decide) (by decide)
             simp_all [gal, galP]; done)
      · refine wp_iload_4 dX4_galls_69 ?_
        refine wp_iconst (v := 1) dX4_galls_71 rfl ?_
        refine wp_isub dX4_galls_72 ?_
        refine wp_goto (tgt := 77) dX4_galls_73 rfl ?_
        refine wp_iret dX4_galls_77 rfl rfl ?_
        refine Qe hQ ?_ rfl
        first
          | exact absurd rfl c2
          | exact absurd c2 (by decide)
          | (simp [gal, galP]; done)
          | (simp [gal, galP, c2]; done)
          | (simp [gal, galP]; (try simp at c66); intro h; exact absurd h (Int32.not_lt.mpr c66))
          | (simp [gal, galP]; (try simp at c66); intro h; exact absurd c66 (Int32.not_lt.mpr h))
          | (have e1 : ¬ kq0 = 1 := sw_default (k := 1) hzQ (by decide) (by decide) (by decide)
             have e2 : ¬ kq0 = 2 := sw_default (k := 2) hzQ (by decide) (by decide) (by decide)
             have e3 : ¬ kq0 = 3 := sw_default (k := 3) hzQ (by decide) (by decide) (by decide)
             have e4 : ¬ kq0 = 4 := sw_default (k := 4) hzQ (by decide) (by decide) (by decide)
             simp_all [gal, galP]; done)
    · subst hzQ
      refine wp_switch dX4_galls_21 64 rfl (fun _ => (Nat.le_of_ble_eq_true rfl)) ?_
      refine wp_iload_4 dX4_galls_64 ?_
      refine wp_if_le (tgt := 76) dX4_galls_66 rfl (fun c66 => ?_) (fun c66 => ?_)
      · refine wp_iconst (v := 0) dX4_galls_76 rfl ?_
        refine wp_iret dX4_galls_77 rfl rfl ?_
        refine Qe hQ ?_ rfl
        first
          | exact absurd rfl c2
          | exact absurd c2 (by decide)
          | (simp [gal, galP]; done)
          | (simp [gal, galP, c2]; done)
          | (simp [gal, galP]; (try simp at c66); intro h; exact absurd h (Int32.not_lt.mpr c66))
          | (simp [gal, galP]; (try simp at c66); intro h; exact absurd c66 (Int32.not_lt.mpr h))
          | (have e1 : ¬ kq0 = 1 := sw_default (k := 1) hzQ (by decide) (by decide) (by decide)
             have e2 : ¬ kq0 = 2 := sw_default (k := 2) hzQ (by decide) (by decide) (by decide)
             have e3 : ¬ kq0 = 3 := sw_default (k := 3) hzQ (by decide) (by decide) (by decide)
             have e4 : ¬ kq0 = 4 := sw_default (k := 4) hzQ (by decide) (by decide) (by decide)
             simp_all [gal, galP]; done)
      · refine wp_iload_4 dX4_galls_69 ?_
        refine wp_iconst (v := 1) dX4_galls_71 rfl ?_
        refine wp_isub dX4_galls_72 ?_
        refine wp_goto (tgt := 77) dX4_galls_73 rfl ?_
        refine wp_iret dX4_galls_77 rfl rfl ?_
        refine Qe hQ ?_ rfl
        first
          | exact absurd rfl c2
          | exact absurd c2 (by decide)
          | (simp [gal, galP]; done)
          | (simp [gal, galP, c2]; done)
          | (simp [gal, galP]; (try simp at c66); intro h; exact absurd h (Int32.not_lt.mpr c66))
          | (simp [gal, galP]; (try simp at c66); intro h; exact absurd c66 (Int32.not_lt.mpr h))
          | (have e1 : ¬ kq0 = 1 := sw_default (k := 1) hzQ (by decide) (by decide) (by decide)
             have e2 : ¬ kq0 = 2 := sw_default (k := 2) hzQ (by decide) (by decide) (by decide)
             have e3 : ¬ kq0 = 3 := sw_default (k := 3) hzQ (by decide) (by decide) (by decide)
             have e4 : ¬ kq0 = 4 := sw_default (k := 4) hzQ (by decide) (by decide) (by decide)
             simp_all [gal, galP]; done)
    · subst hzQ
      refine wp_switch dX4_galls_21 57 rfl (fun _ => (Nat.le_of_ble_eq_true rfl)) ?_
      refine wp_iconst (v := 2) dX4_galls_57 rfl ?_
      refine wp_iload_4 dX4_galls_58 ?_
      refine wp_imul dX4_galls_60 ?_
      refine wp_iconst (v := 1) dX4_galls_61 rfl ?_
      refine wp_iadd dX4_galls_62 ?_
      refine wp_iret dX4_galls_63 rfl rfl ?_
      refine Qe hQ ?_ rfl
      first
        | exact absurd rfl c2
        | exact absurd c2 (by decide)
        | (simp [gal, galP]; done)
        | (simp [gal, galP, c2]; done)
        | (simp [gal, galP]; (try simp at c66); intro h; exact absurd h (Int32.not_lt.mpr c66))
        | (simp [gal, galP]; (try simp at c66); intro h; exact absurd c66 (Int32.not_lt.mpr h))
        | (have e1 : ¬ kq0 = 1 := sw_default (k := 1) hzQ (by decide) (by decide) (by decide)
           have e2 : ¬ kq0 = 2 := sw_default (k := 2) hzQ (by decide) (by decide) (by decide)
           have e3 : ¬ kq0 = 3 := sw_default (k := 3) hzQ (by decide) (by decide) (by decide)
           have e4 : ¬ kq0 = 4 := sw_default (k := 4) hzQ (by decide) (by decide) (by decide)
           simp_all [gal, galP]; done)
    · refine wp_switch dX4_galls_21 78 (by rw [if_pos hzQ]; rfl) (fun q => absurd hzQ q) ?_
      refine wp_iload_4 dX4_galls_78 ?_
      refine wp_iret dX4_galls_80 rfl rfl ?_
      refine Qe hQ ?_ rfl
      first
        | exact absurd rfl c2
        | exact absurd c2 (by decide)
        | (simp [gal, galP]; done)
        | (simp [gal, galP, c2]; done)
        | (simp [gal, galP]; (try simp at c66); intro h; exact absurd h (Int32.not_lt.mpr c66))
        | (simp [gal, galP]; (try simp at c66); intro h; exact absurd c66 (Int32.not_lt.mpr h))
        | (have e1 : ¬ kq0 = 1 := sw_default (k := 1) hzQ (by decide) (by decide) (by decide)
           have e2 : ¬ kq0 = 2 := sw_default (k := 2) hzQ (by decide) (by decide) (by decide)
           have e3 : ¬ kq0 = 3 := sw_default (k := 3) hzQ (by decide) (by decide) (by decide)
           have e4 : ¬ kq0 = 4 := sw_default (k := 4) hzQ (by decide) (by decide) (by decide)
           simp_all [gal, galP]; done)
  · refine wp_iconst (v := 0) dX4_galls_5 rfl ?_
    refine wp_goto (tgt := 10) dX4_galls_6 rfl ?_
    refine wp_istore_3 dX4_galls_10 (Nat.le_of_ble_eq_true rfl) rfl ?_
    refine wp_iload_3 dX4_galls_11 ?_
    refine wp_iconst (v := 3) dX4_galls_12 rfl ?_
    refine wp_idiv dX4_galls_13 (by decide) ?_
    refine wp_iload_2 dX4_galls_14 ?_
    refine wp_iconst (v := 5) dX4_galls_15 rfl ?_
    refine wp_idiv dX4_galls_16 (by decide) ?_
    refine wp_iadd dX4_galls_17 ?_
    refine wp_istore_4 dX4_galls_18 (Nat.le_of_ble_eq_true rfl) rfl ?_
    refine wp_iload_0 dX4_galls_20 ?_
    refine sw_1_4 kq0 (fun hzQ => ?_) (fun hzQ => ?_) (fun hzQ => ?_) (fun hzQ => ?_) (fun hzQ => ?_)
    · subst hzQ
      refine wp_switch dX4_galls_21 52 rfl (fun _ => (Nat.le_of_ble_eq_true rfl)) ?_
      refine wp_iconst (v := 2) dX4_galls_52 rfl ?_
      refine wp_iload_4 dX4_galls_53 ?_
      refine wp_imul dX4_galls_55 ?_
      refine wp_iret dX4_galls_56 rfl rfl ?_
      refine Qe hQ ?_ rfl
      first
        | exact absurd rfl c2
        | exact absurd c2 (by decide)
        | (simp [gal, galP]; done)
        | (simp [gal, galP, c2]; done)
        | (simp [gal, galP]; (try simp at c66); intro h; exact absurd h (Int32.not_lt.mpr c66))
        | (simp [gal, galP]; (try simp at c66); intro h; exact absurd c66 (Int32.not_lt.mpr h))
        | (have e1 : ¬ kq0 = 1 := sw_default (k := 1) hzQ (by decide) (by decide) (by decide)
           have e2 : ¬ kq0 = 2 := sw_default (k := 2) hzQ (by decide) (by decide) (by decide)
           have e3 : ¬ kq0 = 3 := sw_default (k := 3) hzQ (by decide) (by decide) (by decide)
           have e4 : ¬ kq0 = 4 := sw_default (k := 4) hzQ (by decide) (by decide) (by decide)
           simp_all [gal, galP]; done)
    · subst hzQ
      refine wp_switch dX4_galls_21 64 rfl (fun _ => (Nat.le_of_ble_eq_true rfl)) ?_
      refine wp_iload_4 dX4_galls_64 ?_
      refine wp_if_le (tgt := 76) dX4_galls_66 rfl (fun c66 => ?_) (fun c66 => ?_)
      · refine wp_iconst (v := 0) dX4_galls_76 rfl ?_
        refine wp_iret dX4_galls_77 rfl rfl ?_
        refine Qe hQ ?_ rfl
        first
          | exact absurd rfl c2
          | exact absurd c2 (by decide)
          | (simp [gal, galP]; done)
          | (simp [gal, galP, c2]; done)
          | (simp [gal, galP]; (try simp at c66); intro h; exact absurd h (Int32.not_lt.mpr c66))
          | (simp [gal, galP]; (try simp at c66); intro h; exact absurd c66 (Int32.not_lt.mpr h))
          | (have e1 : ¬ kq0 = 1 := sw_default (k := 1) hzQ (by decide) (by decide) (by decide)
             have e2 : ¬ kq0 = 2 := sw_default (k := 2) hzQ (by decide) (by decide) (by decide)
             have e3 : ¬ kq0 = 3 := sw_default (k := 3) hzQ (by decide) (by decide) (by decide)
             have e4 : ¬ kq0 = 4 := sw_default (k := 4) hzQ (by decide) (by decide) (by decide)
             simp_all [gal, galP]; done)
      · refine wp_iload_4 dX4_galls_69 ?_
        refine wp_iconst (v := 1) dX4_galls_71 rfl ?_
        refine wp_isub dX4_galls_72 ?_
        refine wp_goto (tgt := 77) dX4_galls_73 rfl ?_
        refine wp_iret dX4_galls_77 rfl rfl ?_
        refine Qe hQ ?_ rfl
        first
          | exact absurd rfl c2
          | exact absurd c2 (by decide)
          | (simp [gal, galP]; done)
          | (simp [gal, galP, c2]; done)
          | (simp [gal, galP]; (try simp at c66); intro h; exact absurd h (Int32.not_lt.mpr c66))
          | (simp [gal, galP]; (try simp at c66); intro h; exact absurd c66 (Int32.not_lt.mpr h))
          | (have e1 : ¬ kq0 = 1 := sw_default (k := 1) hzQ (by decide) (by decide) (by decide)
             have e2 : ¬ kq0 = 2 := sw_default (k := 2) hzQ (by decide) (by decide) (by decide)
             have e3 : ¬ kq0 = 3 := sw_default (k := 3) hzQ (by decide) (by decide) (by decide)
             have e4 : ¬ kq0 = 4 := sw_default (k := 4) hzQ (by decide) (by decide) (by decide)
             simp_all [gal, galP]; done)
    · subst hzQ
      refine wp_switch dX4_galls_21 64 rfl (fun _ => (Nat.le_of_ble_eq_true rfl)) ?_
      refine wp_iload_4 dX4_galls_64 ?_
      refine wp_if_le (tgt := 76) dX4_galls_66 rfl (fun c66 => ?_) (fun c66 => ?_)
      · refine wp_iconst (v := 0) dX4_galls_76 rfl ?_
        refine wp_iret dX4_galls_77 rfl rfl ?_
        refine Qe hQ ?_ rfl
        first
          | exact absurd rfl c2
          | exact absurd c2 (by decide)
          | (simp [gal, galP]; done)
          | (simp [gal, galP, c2]; done)
          | (simp [gal, galP]; (try simp at c66); intro h; exact absurd h (Int32.not_lt.mpr c66))
          | (simp [gal, galP]; (try simp at c66); intro h; exact absurd c66 (Int32.not_lt.mpr h))
          | (have e1 : ¬ kq0 = 1 := sw_default (k := 1) hzQ (by decide) (by decide) (by decide)
             have e2 : ¬ kq0 = 2 := sw_default (k := 2) hzQ (by decide) (by decide) (by decide)
             have e3 : ¬ kq0 = 3 := sw_default (k := 3) hzQ (by decide) (by decide) (by decide)
             have e4 : ¬ kq0 = 4 := sw_default (k := 4) hzQ (by decide) (by decide) (by decide)
             simp_all [gal, galP]; done)
      · refine wp_iload_4 dX4_galls_69 ?_
        refine wp_iconst (v := 1) dX4_galls_71 rfl ?_
        refine wp_isub dX4_galls_72 ?_
        refine wp_goto (tgt := 77) dX4_galls_73 rfl ?_
        refine wp_iret dX4_galls_77 rfl rfl ?_
        refine Qe hQ ?_ rfl
        first
          | exact absurd rfl c2
          | exact absurd c2 (by decide)
          | (simp [gal, galP]; done)
          | (simp [gal, galP, c2]; done)
          | (simp [gal, galP]; (try simp at c66); intro h; exact absurd h (Int32.not_lt.mpr c66))
          | (simp [gal, galP]; (try simp at c66); intro h; exact absurd c66 (Int32.not_lt.mpr h))
          | (have e1 : ¬ kq0 = 1 := sw_default (k := 1) hzQ (by decide) (by decide) (by decide)
             have e2 : ¬ kq0 = 2 := sw_default (k := 2) hzQ (by decide) (by decide) (by decide)
             have e3 : ¬ kq0 = 3 := sw_default (k := 3) hzQ (by decide) (by decide) (by decide)
             have e4 : ¬ kq0 = 4 := sw_default (k := 4) hzQ (by decide) (by decide) (by decide)
             simp_all [gal, galP]; done)
    · subst hzQ
      refine wp_switch dX4_galls_21 57 rfl (fun _ => (Nat.le_of_ble_eq_true rfl)) ?_
      refine wp_iconst (v := 2) dX4_galls_57 rfl ?_
      refine wp_iload_4 dX4_galls_58 ?_
      refine wp_imul dX4_galls_60 ?_
      refine wp_iconst (v := 1) dX4_galls_61 rfl ?_
      refine wp_iadd dX4_galls_62 ?_
      refine wp_iret dX4_galls_63 rfl rfl ?_
      refine Qe hQ ?_ rfl
      first
        | exact absurd rfl c2
        | exact absurd c2 (by decide)
        | (simp [gal, galP]; done)
        | (simp [gal, galP, c2]; done)
        | (simp [gal, galP]; (try simp at c66); intro h; exact absurd h (Int32.not_lt.mpr c66))
        | (simp [gal, galP]; (try simp at c66); intro h; exact absurd c66 (Int32.not_lt.mpr h))
        | (have e1 : ¬ kq0 = 1 := sw_default (k := 1) hzQ (by decide) (by decide) (by decide)
           have e2 : ¬ kq0 = 2 := sw_default (k := 2) hzQ (by decide) (by decide) (by decide)
           have e3 : ¬ kq0 = 3 := sw_default (k := 3) hzQ (by decide) (by decide) (by decide)
           have e4 : ¬ kq0 = 4 := sw_default (k := 4) hzQ (by decide) (by decide) (by decide)
           simp_all [gal, galP]; done)
    · refine wp_switch dX4_galls_21 78 (by rw [if_pos hzQ]; rfl) (fun q => absurd hzQ q) ?_
      refine wp_iload_4 dX4_galls_78 ?_
      refine wp_iret dX4_galls_80 rfl rfl ?_
      refine Qe hQ ?_ rfl
      first
        | exact absurd rfl c2
        | exact absurd c2 (by decide)
        | (simp [gal, galP]; done)
        | (simp [gal, galP, c2]; done)
        | (simp [gal, galP]; (try simp at c66); intro h; exact absurd h (Int32.not_lt.mpr c66))
        | (simp [gal, galP]; (try simp at c66); intro h; exact absurd c66 (Int32.not_lt.mpr h))
        | (have e1 : ¬ kq0 = 1 := sw_default (k := 1) hzQ (by decide) (by decide) (by decide)
           have e2 : ¬ kq0 = 2 := sw_default (k := 2) hzQ (by decide) (by decide) (by decide)
           have e3 : ¬ kq0 = 3 := sw_default (k := 3) hzQ (by decide) (by decide) (by decide)
           have e4 : ¬ kq0 = 4 := sw_default (k := 4) hzQ (by decide) (by decide) (by decide)
           simp_all [gal, galP]; done)
set_option maxRecDepth 100000 in
set_option maxHeartbeats 4000000 in
theorem c_X4_walls {κ : KX} {M : MM} {Q : Option Value → va_W → Prop} {g : Nat} (hg : M.1 1 2 = nI g) (h6 : g ≤ 6) (hQ : Q (some (.int (nI (g - 1)))) (wM κ (M))) : CT κ (0, 0, 0) mX4_walls [rv κ 1] (wM κ M) Q := by
  refine CT.of okX4_walls [some (rv κ 1)] (Nat.le_of_ble_eq_true rfl) rfl ?_
  refine wp_rload_0 dX4_walls_0 ?_
  refine wp_getI fX4_18 dX4_walls_1 kd_1 rfl ?_
  rw [hg]
  refine wp_iconst (v := 2) dX4_walls_4 rfl ?_
  refine wp_icmp_ge (tgt := 12) dX4_walls_5 rfl (fun c5 => ?_) (fun c5 => ?_)
  · refine wp_rload_0 dX4_walls_12 ?_
    refine wp_getI fX4_18 dX4_walls_13 kd_1 rfl ?_
    rw [hg]
    refine wp_iconst (v := 1) dX4_walls_16 rfl ?_
    refine wp_isub dX4_walls_17 ?_
    refine wp_iret dX4_walls_18 rfl rfl ?_
    refine Qe hQ ?_ rfl
    rcases Nat.lt_or_ge g 2 with h | h
    · first
        | exact absurd c5 (nI_ge h (by decide))
        | (rw [show g - 1 = 0 by omega]; rfl)
    · first
        | exact nI_walls h
        | exact absurd (nI_le h (by omega)) c5
  · refine wp_iconst (v := 0) dX4_walls_8 rfl ?_
    refine wp_goto (tgt := 18) dX4_walls_9 rfl ?_
    refine wp_iret dX4_walls_18 rfl rfl ?_
    refine Qe hQ ?_ rfl
    rcases Nat.lt_or_ge g 2 with h | h
    · first
        | exact absurd c5 (nI_ge h (by decide))
        | (rw [show g - 1 = 0 by omega]; rfl)
    · first
        | exact nI_walls h
        | exact absurd (nI_le h (by omega)) c5
set_option maxRecDepth 100000 in
set_option maxHeartbeats 4000000 in
theorem c_X4_isGarden {κ : KX} {M : MM} {Q : Option Value → va_W → Prop} {x : Int32}  (hQ : Q (some (.int (wi x 0 (M.1 1 2 - 1)))) (wM κ (M))) : CT κ (1, 0, 0) mX4_isGarden [rv κ 1, .int x] (wM κ M) Q := by
  refine CT.of okX4_isGarden [some (rv κ 1), some (.int x)] (Nat.le_of_ble_eq_true rfl) rfl ?_
  refine wp_iload_1 dX4_isGarden_0 ?_
  refine wp_iconst (v := 0) dX4_isGarden_1 rfl ?_
  refine wp_rload_0 dX4_isGarden_2 ?_
  refine wp_getI fX4_18 dX4_isGarden_3 kd_1 rfl ?_
  refine wp_iconst (v := 1) dX4_isGarden_6 rfl ?_
  refine wp_isub dX4_isGarden_7 ?_
  refine wp_callSN_3 kX4_58 dX4_isGarden_8 (c_X6_within ?_) ⟨Nat.le_of_ble_eq_true rfl, Nat.le_of_ble_eq_true rfl, Nat.le_of_ble_eq_true rfl⟩ (Nat.le_of_ble_eq_true rfl)
  refine wp_zret dX4_isGarden_11 rfl (wi_nar _ _ _) rfl ?_
  exact hQ
set_option maxRecDepth 100000 in
set_option maxHeartbeats 4000000 in
theorem c_X4_isWall {κ : KX} {M : MM} {Q : Option Value → va_W → Prop} {x : Int32} {g : Nat} (hg : M.1 1 2 = nI g) (h6 : g ≤ 6) (hQ : Q (some (.int (wi x 0 (nI (g - 1) - 1)))) (wM κ (M))) : CT κ (1, 0, 0) mX4_isWall [rv κ 1, .int x] (wM κ M) Q := by
  refine CT.of okX4_isWall [some (rv κ 1), some (.int x)] (Nat.le_of_ble_eq_true rfl) rfl ?_
  refine wp_iload_1 dX4_isWall_0 ?_
  refine wp_iconst (v := 0) dX4_isWall_1 rfl ?_
  refine wp_rload_0 dX4_isWall_2 ?_
  refine wp_callV_0 kX4_62 dX4_isWall_3 kd_1 rfl (c_X4_walls hg h6 ?_) ⟨Nat.le_of_ble_eq_true rfl, Nat.le_of_ble_eq_true rfl, Nat.le_of_ble_eq_true rfl⟩ (Nat.le_of_ble_eq_true rfl)
  refine wp_iconst (v := 1) dX4_isWall_6 rfl ?_
  refine wp_isub dX4_isWall_7 ?_
  refine wp_callSN_3 kX4_58 dX4_isWall_8 (c_X6_within ?_) ⟨Nat.le_of_ble_eq_true rfl, Nat.le_of_ble_eq_true rfl, Nat.le_of_ble_eq_true rfl⟩ (Nat.le_of_ble_eq_true rfl)
  refine wp_zret dX4_isWall_11 rfl (wi_nar _ _ _) rfl ?_
  exact hQ
def wkl (M : MM) (w : Nat) (co : Int32) : Int32 := gal (M.1 2 w) (M.1 3 (w + 1)) co + gal (M.1 2 (w + 1)) (M.1 3 w) co - M.1 1 4
set_option maxRecDepth 100000 in
set_option maxHeartbeats 4000000 in
theorem c_X4_weekly {κ : KX} {M : MM} {Q : Option Value → va_W → Prop} {w : Nat} {co : Int32} (hw : w < 5) (hQ : Q (some (.int (wkl M w co))) (wM κ (M))) : CT κ (1, 0, 0) mX4_weekly [rv κ 1, .int (nI w), .int co] (wM κ M) Q := by
  refine CT.of okX4_weekly [some (rv κ 1), some (.int (nI w)), some (.int co)] (Nat.le_of_ble_eq_true rfl) rfl ?_
  refine wp_rload_0 dX4_weekly_0 ?_
  refine wp_getR (t := 2) fX4_9 dX4_weekly_1 kd_1 rfl (rf_1_0) ?_
  refine wp_iload_1 dX4_weekly_4 ?_
  refine wp_ald (j := w) dX4_weekly_5 ar_2 (rfl) (by omega) ?_
  refine wp_rload_0 dX4_weekly_6 ?_
  refine wp_getR (t := 3) fX4_15 dX4_weekly_7 kd_1 rfl (rf_1_1) ?_
  refine wp_iload_1 dX4_weekly_10 ?_
  refine wp_iconst (v := 1) dX4_weekly_11 rfl ?_
  refine wp_iadd dX4_weekly_12 ?_
  refine wp_ald (j := (w + 1)) dX4_weekly_13 ar_3 (nI_add _ _) (by omega) ?_
  refine wp_iload_2 dX4_weekly_14 ?_
  refine wp_callS_3 kX4_101 dX4_weekly_15 (c_X4_galls ?_) ⟨Nat.le_of_ble_eq_true rfl, Nat.le_of_ble_eq_true rfl, Nat.le_of_ble_eq_true rfl⟩ (Nat.le_of_ble_eq_true rfl)
  refine wp_rload_0 dX4_weekly_18 ?_
  refine wp_getR (t := 2) fX4_9 dX4_weekly_19 kd_1 rfl (rf_1_0) ?_
  refine wp_iload_1 dX4_weekly_22 ?_
  refine wp_iconst (v := 1) dX4_weekly_23 rfl ?_
  refine wp_iadd dX4_weekly_24 ?_
  refine wp_ald (j := (w + 1)) dX4_weekly_25 ar_2 (nI_add _ _) (by omega) ?_
  refine wp_rload_0 dX4_weekly_26 ?_
  refine wp_getR (t := 3) fX4_15 dX4_weekly_27 kd_1 rfl (rf_1_1) ?_
  refine wp_iload_1 dX4_weekly_30 ?_
  refine wp_ald (j := w) dX4_weekly_31 ar_3 (rfl) (by omega) ?_
  refine wp_iload_2 dX4_weekly_32 ?_
  refine wp_callS_3 kX4_101 dX4_weekly_33 (c_X4_galls ?_) ⟨Nat.le_of_ble_eq_true rfl, Nat.le_of_ble_eq_true rfl, Nat.le_of_ble_eq_true rfl⟩ (Nat.le_of_ble_eq_true rfl)
  refine wp_iadd dX4_weekly_36 ?_
  refine wp_rload_0 dX4_weekly_37 ?_
  refine wp_getI fX4_25 dX4_weekly_38 kd_1 rfl ?_
  refine wp_isub dX4_weekly_41 ?_
  refine wp_iret dX4_weekly_42 rfl rfl ?_
  exact hQ
def var (M : MM) (w : Nat) (more : Int32) : MM := sI M 6 w (asQ (M.1 6 w + more))
set_option maxRecDepth 100000 in
set_option maxHeartbeats 4000000 in
theorem c_X4_vary {κ : KX} {M : MM} {Q : Option Value → va_W → Prop} {w : Nat} {more : Int32} (hw : w < 5) (hQ : Q (some (.int (asQ (M.1 6 w + more)))) (wM κ (var M w more))) : CT κ (2, 0, 0) mX4_vary [rv κ 1, .int (nI w), .int more] (wM κ M) Q := by
  refine CT.of okX4_vary [some (rv κ 1), some (.int (nI w)), some (.int more)] (Nat.le_of_ble_eq_true rfl) rfl ?_
  refine wp_rload_0 dX4_vary_0 ?_
  refine wp_getR (t := 4) fX4_31 dX4_vary_1 kd_1 rfl (rf_1_5) ?_
  refine wp_getR (t := 6) fX4_89 dX4_vary_4 kd_4 rfl (rf_4_1) ?_
  refine wp_iload_1 dX4_vary_7 ?_
  refine wp_rload_0 dX4_vary_8 ?_
  refine wp_getR (t := 4) fX4_31 dX4_vary_9 kd_1 rfl (rf_1_5) ?_
  refine wp_getR (t := 6) fX4_89 dX4_vary_12 kd_4 rfl (rf_4_1) ?_
  refine wp_iload_1 dX4_vary_15 ?_
  refine wp_ald (j := w) dX4_vary_16 ar_6 (rfl) (by omega) ?_
  refine wp_iload_2 dX4_vary_17 ?_
  refine wp_iadd dX4_vary_18 ?_
  refine wp_callSN_1 kX4_136 dX4_vary_19 (c_X6_asQuarrel ?_) ⟨Nat.le_of_ble_eq_true rfl, Nat.le_of_ble_eq_true rfl, Nat.le_of_ble_eq_true rfl⟩ (Nat.le_of_ble_eq_true rfl)
  refine wp_ast (j := w) dX4_vary_22 ar_6 (rfl) (by omega) ?_
  refine wp_rload_0 dX4_vary_23 ?_
  refine wp_getR (t := 4) fX4_31 dX4_vary_24 kd_1 rfl (rf_1_5) ?_
  refine wp_getR (t := 6) fX4_89 dX4_vary_27 kd_4 rfl (rf_4_1) ?_
  refine wp_iload_1 dX4_vary_30 ?_
  refine wp_ald (j := w) dX4_vary_31 ar_6 (rfl) (by omega) ?_
  refine wp_iret dX4_vary_32 rfl rfl ?_
  exact Qe hQ (sI_same _ _ _ _) rfl
def wtm (M : MM) : Int32 := M.1 1 3 - (M.1 4 4 - M.1 4 4 / M.1 1 3 * M.1 1 3)
set_option maxRecDepth 100000 in
set_option maxHeartbeats 4000000 in
theorem c_X4_weeksToMichaelmas {κ : KX} {M : MM} {Q : Option Value → va_W → Prop}  (hy : 0 < M.1 1 3) (hQ : Q (some (.int (wtm M))) (wM κ (M))) : CT κ (0, 0, 0) mX4_weeksToMichaelmas [rv κ 1] (wM κ M) Q := by
  refine CT.of okX4_weeksToMichaelmas [some (rv κ 1)] (Nat.le_of_ble_eq_true rfl) rfl ?_
  refine wp_rload_0 dX4_weeksToMichaelmas_0 ?_
  refine wp_getI fX4_22 dX4_weeksToMichaelmas_1 kd_1 rfl ?_
  refine wp_if_gt (tgt := 11) dX4_weeksToMichaelmas_4 rfl (fun c4 => ?_) (fun c4 => absurd (hy) c4)
  refine wp_rload_0 dX4_weeksToMichaelmas_11 ?_
  refine wp_getI fX4_22 dX4_weeksToMichaelmas_12 kd_1 rfl ?_
  refine wp_rload_0 dX4_weeksToMichaelmas_15 ?_
  refine wp_getR (t := 4) fX4_31 dX4_weeksToMichaelmas_16 kd_1 rfl (rf_1_5) ?_
  refine wp_getI fX4_79 dX4_weeksToMichaelmas_19 kd_4 rfl ?_
  refine wp_rload_0 dX4_weeksToMichaelmas_22 ?_
  refine wp_getI fX4_22 dX4_weeksToMichaelmas_23 kd_1 rfl ?_
  refine wp_irem dX4_weeksToMichaelmas_26 (gt_ne0 hy) ?_
  refine wp_isub dX4_weeksToMichaelmas_27 ?_
  refine wp_iret dX4_weeksToMichaelmas_28 rfl rfl ?_
  exact hQ
def mor (M : MM) (w : Nat) : Int32 := M.1 6 w / 5 - M.1 5 w
def cst (x : Int32) : Int32 := if 0 < x then 2 * x else -x
theorem cst_pos {x : Int32} (h : ¬ x ≤ 0) : cst x = 2 * x := if_pos (Int32.not_le.mp h)
theorem cst_neg {x : Int32} (h : x ≤ 0) : cst x = -x := if_neg (Int32.not_lt.mpr h)
def ass (M : MM) (w : Nat) : MM :=
  let M1 := sI M 5 w (M.1 5 w + mor M w)
  let M2 := sI M1 8 w (M1.1 8 w + cst (mor M w))
  sI M2 8 (w + 1) (M2.1 8 (w + 1) + cst (mor M w))
set_option maxRecDepth 100000 in
set_option maxHeartbeats 4000000 in
theorem c_X4_assess {κ : KX} {M : MM} {Q : Option Value → va_W → Prop} {w : Nat} (hw : w < 5) (hQ : Q (none) (wM κ (ass M w))) : CT κ (1, 0, 0) mX4_assess [rv κ 1, .int (nI w)] (wM κ M) Q := by
  refine CT.of okX4_assess [some (rv κ 1), some (.int (nI w)), none, none] (Nat.le_of_ble_eq_true rfl) rfl ?_
  refine wp_rload_0 dX4_assess_0 ?_
  refine wp_getR (t := 4) fX4_31 dX4_assess_1 kd_1 rfl (rf_1_5) ?_
  refine wp_getR (t := 6) fX4_89 dX4_assess_4 kd_4 rfl (rf_4_1) ?_
  refine wp_iload_1 dX4_assess_7 ?_
  refine wp_ald (j := w) dX4_assess_8 ar_6 (rfl) (by omega) ?_
  refine wp_callSN_1 kX4_121 dX4_assess_9 (c_X6_coursesFor ?_) ⟨Nat.le_of_ble_eq_true rfl, Nat.le_of_ble_eq_true rfl, Nat.le_of_ble_eq_true rfl⟩ (Nat.le_of_ble_eq_true rfl)
  refine wp_rload_0 dX4_assess_12 ?_
  refine wp_getR (t := 4) fX4_31 dX4_assess_13 kd_1 rfl (rf_1_5) ?_
  refine wp_getR (t := 5) fX4_93 dX4_assess_16 kd_4 rfl (rf_4_0) ?_
  refine wp_iload_1 dX4_assess_19 ?_
  refine wp_ald (j := w) dX4_assess_20 ar_5 (rfl) (by omega) ?_
  refine wp_isub dX4_assess_21 ?_
  refine wp_istore_2 dX4_assess_22 (Nat.le_of_ble_eq_true rfl) rfl ?_
  refine wp_iload_2 dX4_assess_23 ?_
  refine wp_if_le (tgt := 33) dX4_assess_24 rfl (fun c24 => ?_) (fun c24 => ?_)
  · refine wp_iload_2 dX4_assess_33 ?_
    refine wp_ineg dX4_assess_34 ?_
    refine wp_istore_3 dX4_assess_35 (Nat.le_of_ble_eq_true rfl) rfl ?_
    refine wp_rload_0 dX4_assess_36 ?_
    refine wp_getR (t := 4) fX4_31 dX4_assess_37 kd_1 rfl (rf_1_5) ?_
    refine wp_getR (t := 5) fX4_93 dX4_assess_40 kd_4 rfl (rf_4_0) ?_
    refine wp_iload_1 dX4_assess_43 ?_
    refine wp_dup2_iv dX4_assess_44 ?_
    refine wp_ald (j := w) dX4_assess_45 ar_5 (rfl) (by omega) ?_
    refine wp_iload_2 dX4_assess_46 ?_
    refine wp_iadd dX4_assess_47 ?_
    refine wp_ast (j := w) dX4_assess_48 ar_5 (rfl) (by omega) ?_
    refine wp_rload_0 dX4_assess_49 ?_
    refine wp_getR (t := 4) fX4_31 dX4_assess_50 kd_1 rfl (rf_1_5) ?_
    refine wp_getR (t := 8) fX4_66 dX4_assess_53 kd_4 rfl (rf_4_3) ?_
    refine wp_iload_1 dX4_assess_56 ?_
    refine wp_dup2_iv dX4_assess_57 ?_
    refine wp_ald (j := w) dX4_assess_58 ar_8 (rfl) (by omega) ?_
    refine wp_iload_3 dX4_assess_59 ?_
    refine wp_iadd dX4_assess_60 ?_
    refine wp_ast (j := w) dX4_assess_61 ar_8 (rfl) (by omega) ?_
    refine wp_rload_0 dX4_assess_62 ?_
    refine wp_getR (t := 4) fX4_31 dX4_assess_63 kd_1 rfl (rf_1_5) ?_
    refine wp_getR (t := 8) fX4_66 dX4_assess_66 kd_4 rfl (rf_4_3) ?_
    refine wp_iload_1 dX4_assess_69 ?_
    refine wp_iconst (v := 1) dX4_assess_70 rfl ?_
    refine wp_iadd dX4_assess_71 ?_
    refine wp_dup2_iv dX4_assess_72 ?_
    refine wp_ald (j := (w + 1)) dX4_assess_73 ar_8 (nI_add _ _) (by omega) ?_
    refine wp_iload_3 dX4_assess_74 ?_
    refine wp_iadd dX4_assess_75 ?_
    refine wp_ast (j := (w + 1)) dX4_assess_76 ar_8 (nI_add _ _) (by omega) ?_
    refine wp_vret dX4_assess_77 rfl rfl ?_
    refine Qv hQ ?_
    first
      | (simp only [ass, mor, cst_pos c24]; done)
      | (simp only [ass, mor, cst_neg c24]; done)
  · refine wp_iconst (v := 2) dX4_assess_27 rfl ?_
    refine wp_iload_2 dX4_assess_28 ?_
    refine wp_imul dX4_assess_29 ?_
    refine wp_goto (tgt := 35) dX4_assess_30 rfl ?_
    refine wp_istore_3 dX4_assess_35 (Nat.le_of_ble_eq_true rfl) rfl ?_
    refine wp_rload_0 dX4_assess_36 ?_
    refine wp_getR (t := 4) fX4_31 dX4_assess_37 kd_1 rfl (rf_1_5) ?_
    refine wp_getR (t := 5) fX4_93 dX4_assess_40 kd_4 rfl (rf_4_0) ?_
    refine wp_iload_1 dX4_assess_43 ?_
    refine wp_dup2_iv dX4_assess_44 ?_
    refine wp_ald (j := w) dX4_assess_45 ar_5 (rfl) (by omega) ?_
    refine wp_iload_2 dX4_assess_46 ?_
    refine wp_iadd dX4_assess_47 ?_
    refine wp_ast (j := w) dX4_assess_48 ar_5 (rfl) (by omega) ?_
    refine wp_rload_0 dX4_assess_49 ?_
    refine wp_getR (t := 4) fX4_31 dX4_assess_50 kd_1 rfl (rf_1_5) ?_
    refine wp_getR (t := 8) fX4_66 dX4_assess_53 kd_4 rfl (rf_4_3) ?_
    refine wp_iload_1 dX4_assess_56 ?_
    refine wp_dup2_iv dX4_assess_57 ?_
    refine wp_ald (j := w) dX4_assess_58 ar_8 (rfl) (by omega) ?_
    refine wp_iload_3 dX4_assess_59 ?_
    refine wp_iadd dX4_assess_60 ?_
    refine wp_ast (j := w) dX4_assess_61 ar_8 (rfl) (by omega) ?_
    refine wp_rload_0 dX4_assess_62 ?_
    refine wp_getR (t := 4) fX4_31 dX4_assess_63 kd_1 rfl (rf_1_5) ?_
    refine wp_getR (t := 8) fX4_66 dX4_assess_66 kd_4 rfl (rf_4_3) ?_
    refine wp_iload_1 dX4_assess_69 ?_
    refine wp_iconst (v := 1) dX4_assess_70 rfl ?_
    refine wp_iadd dX4_assess_71 ?_
    refine wp_dup2_iv dX4_assess_72 ?_
    refine wp_ald (j := (w + 1)) dX4_assess_73 ar_8 (nI_add _ _) (by omega) ?_
    refine wp_iload_3 dX4_assess_74 ?_
    refine wp_iadd dX4_assess_75 ?_
    refine wp_ast (j := (w + 1)) dX4_assess_76 ar_8 (nI_add _ _) (by omega) ?_
    refine wp_vret dX4_assess_77 rfl rfl ?_
    refine Qv hQ ?_
    first
      | (simp only [ass, mor, cst_pos c24]; done)
      | (simp only [ass, mor, cst_neg c24]; done)
def drw (M : MM) : MM := sI M 4 5 ((M.1 4 5 * 1103515245 + 12345) &&& 2147483647)
set_option maxRecDepth 100000 in
set_option maxHeartbeats 4000000 in
theorem c_X4_drawNext {κ : KX} {M : MM} {Q : Option Value → va_W → Prop}   (hQ : Q (some (.int ((M.1 4 5 * 1103515245 + 12345) &&& 2147483647))) (wM κ (drw M))) : CT κ (0, 0, 0) mX4_drawNext [rv κ 1] (wM κ M) Q := by
  refine CT.of okX4_drawNext [some (rv κ 1)] (Nat.le_of_ble_eq_true rfl) rfl ?_
  refine wp_rload_0 dX4_drawNext_0 ?_
  refine wp_getR (t := 4) fX4_31 dX4_drawNext_1 kd_1 rfl (rf_1_5) ?_
  refine wp_rload_0 dX4_drawNext_4 ?_
  refine wp_getR (t := 4) fX4_31 dX4_drawNext_5 kd_1 rfl (rf_1_5) ?_
  refine wp_getI fX4_131 dX4_drawNext_8 kd_4 rfl ?_
  refine wp_ldc nX4_134 dX4_drawNext_11 ?_
  refine wp_imul dX4_drawNext_13 ?_
  refine wp_sipush (v := 12345) dX4_drawNext_14 rfl ?_
  refine wp_iadd dX4_drawNext_17 ?_
  refine wp_ldc nX4_135 dX4_drawNext_18 ?_
  refine wp_iand dX4_drawNext_20 ?_
  refine wp_putI fX4_131 dX4_drawNext_21 kd_4 rfl rfl ?_
  refine wp_rload_0 dX4_drawNext_24 ?_
  refine wp_getR (t := 4) fX4_31 dX4_drawNext_25 kd_1 rfl (rf_1_5) ?_
  refine wp_getI fX4_131 dX4_drawNext_28 kd_4 rfl ?_
  refine wp_iret dX4_drawNext_31 rfl rfl ?_
  exact Qe hQ (sI_same _ _ _ _) rfl
def clp (M : MM) (w : Nat) : MM := var (sI M 5 w 0) w 5
set_option maxRecDepth 100000 in
set_option maxHeartbeats 4000000 in
theorem c_X4_collapse {κ : KX} {M : MM} {Q : Option Value → va_W → Prop} {w : Nat} (hw : w < 5) (hQ : Q (some (.int (M.1 5 w))) (wM κ (clp M w))) : CT κ (3, 0, 0) mX4_collapse [rv κ 1, .int (nI w)] (wM κ M) Q := by
  refine CT.of okX4_collapse [some (rv κ 1), some (.int (nI w)), none] (Nat.le_of_ble_eq_true rfl) rfl ?_
  refine wp_rload_0 dX4_collapse_0 ?_
  refine wp_getR (t := 4) fX4_31 dX4_collapse_1 kd_1 rfl (rf_1_5) ?_
  refine wp_getR (t := 5) fX4_93 dX4_collapse_4 kd_4 rfl (rf_4_0) ?_
  refine wp_iload_1 dX4_collapse_7 ?_
  refine wp_ald (j := w) dX4_collapse_8 ar_5 (rfl) (by omega) ?_
  refine wp_istore_2 dX4_collapse_9 (Nat.le_of_ble_eq_true rfl) rfl ?_
  refine wp_rload_0 dX4_collapse_10 ?_
  refine wp_getR (t := 4) fX4_31 dX4_collapse_11 kd_1 rfl (rf_1_5) ?_
  refine wp_getR (t := 5) fX4_93 dX4_collapse_14 kd_4 rfl (rf_4_0) ?_
  refine wp_iload_1 dX4_collapse_17 ?_
  refine wp_iconst (v := 0) dX4_collapse_18 rfl ?_
  refine wp_ast (j := w) dX4_collapse_19 ar_5 (rfl) (by omega) ?_
  refine wp_rload_0 dX4_collapse_20 ?_
  refine wp_iload_1 dX4_collapse_21 ?_
  refine wp_iconst (v := 5) dX4_collapse_22 rfl ?_
  refine wp_callV_2 kX4_112 dX4_collapse_23 kd_1 rfl (c_X4_vary hw ?_) ⟨Nat.le_of_ble_eq_true rfl, Nat.le_of_ble_eq_true rfl, Nat.le_of_ble_eq_true rfl⟩ (Nat.le_of_ble_eq_true rfl)
  refine wp_pop_int dX4_collapse_26 ?_
  refine wp_iload_2 dX4_collapse_27 ?_
  refine wp_iret dX4_collapse_28 rfl rfl ?_
  exact hQ
def apo (M : MM) (w : Nat) : MM := sI (sI M 6 w (M.1 6 w - M.1 6 w / 3)) 7 w (M.1 4 4 + 3)
set_option maxRecDepth 100000 in
set_option maxHeartbeats 4000000 in
theorem c_X4_apologise {κ : KX} {M : MM} {Q : Option Value → va_W → Prop} {w : Nat} (hw : w < 5) (hQ : Q (some (.int (M.1 6 w - M.1 6 w / 3))) (wM κ (apo M w))) : CT κ (1, 0, 0) mX4_apologise [rv κ 1, .int (nI w)] (wM κ M) Q := by
  refine CT.of okX4_apologise [some (rv κ 1), some (.int (nI w))] (Nat.le_of_ble_eq_true rfl) rfl ?_
  refine wp_rload_0 dX4_apologise_0 ?_
  refine wp_getR (t := 4) fX4_31 dX4_apologise_1 kd_1 rfl (rf_1_5) ?_
  refine wp_getR (t := 6) fX4_89 dX4_apologise_4 kd_4 rfl (rf_4_1) ?_
  refine wp_iload_1 dX4_apologise_7 ?_
  refine wp_rload_0 dX4_apologise_8 ?_
  refine wp_getR (t := 4) fX4_31 dX4_apologise_9 kd_1 rfl (rf_1_5) ?_
  refine wp_getR (t := 6) fX4_89 dX4_apologise_12 kd_4 rfl (rf_4_1) ?_
  refine wp_iload_1 dX4_apologise_15 ?_
  refine wp_ald (j := w) dX4_apologise_16 ar_6 (rfl) (by omega) ?_
  refine wp_callSN_1 kX4_139 dX4_apologise_17 (c_X6_lessAThird ?_) ⟨Nat.le_of_ble_eq_true rfl, Nat.le_of_ble_eq_true rfl, Nat.le_of_ble_eq_true rfl⟩ (Nat.le_of_ble_eq_true rfl)
  refine wp_ast (j := w) dX4_apologise_20 ar_6 (rfl) (by omega) ?_
  refine wp_rload_0 dX4_apologise_21 ?_
  refine wp_getR (t := 4) fX4_31 dX4_apologise_22 kd_1 rfl (rf_1_5) ?_
  refine wp_getR (t := 7) fX4_142 dX4_apologise_25 kd_4 rfl (rf_4_2) ?_
  refine wp_iload_1 dX4_apologise_28 ?_
  refine wp_rload_0 dX4_apologise_29 ?_
  refine wp_getR (t := 4) fX4_31 dX4_apologise_30 kd_1 rfl (rf_1_5) ?_
  refine wp_getI fX4_79 dX4_apologise_33 kd_4 rfl ?_
  refine wp_iconst (v := 3) dX4_apologise_36 rfl ?_
  refine wp_iadd dX4_apologise_37 ?_
  refine wp_ast (j := w) dX4_apologise_38 ar_7 (rfl) (by omega) ?_
  refine wp_rload_0 dX4_apologise_39 ?_
  refine wp_getR (t := 4) fX4_31 dX4_apologise_40 kd_1 rfl (rf_1_5) ?_
  refine wp_getR (t := 6) fX4_89 dX4_apologise_43 kd_4 rfl (rf_4_1) ?_
  refine wp_iload_1 dX4_apologise_46 ?_
  refine wp_ald (j := w) dX4_apologise_47 ar_6 (rfl) (by omega) ?_
  refine wp_iret dX4_apologise_48 rfl rfl ?_
  exact Qe hQ (by simp [sI, upd]) rfl
def wta (M : MM) (w : Nat) : Int32 := if 0 < M.1 7 w - M.1 4 4 then M.1 7 w - M.1 4 4 else 0
set_option maxRecDepth 100000 in
set_option maxHeartbeats 4000000 in
theorem c_X3_weeksToApology {κ : KX} {M : MM} {Q : Option Value → va_W → Prop} {w : Nat} (hw : w < 5) (hQ : Q (some (.int (wta M w))) (wM κ (M))) : CT κ (1, 0, 0) mX3_weeksToApology [rv κ 4, .int (nI w)] (wM κ M) Q := by
  refine CT.of okX3_weeksToApology [some (rv κ 4), some (.int (nI w))] (Nat.le_of_ble_eq_true rfl) rfl ?_
  refine wp_iconst (v := 0) dX3_weeksToApology_0 rfl ?_
  refine wp_rload_0 dX3_weeksToApology_1 ?_
  refine wp_getR (t := 7) fX3_18 dX3_weeksToApology_2 kd_4 rfl (rf_4_2) ?_
  refine wp_iload_1 dX3_weeksToApology_5 ?_
  refine wp_ald (j := w) dX3_weeksToApology_6 ar_7 (rfl) (by omega) ?_
  refine wp_rload_0 dX3_weeksToApology_7 ?_
  refine wp_getI fX3_24 dX3_weeksToApology_8 kd_4 rfl ?_
  refine wp_isub dX3_weeksToApology_11 ?_
  refine wp_max kX3_37 dX3_weeksToApology_12 ⟨Nat.le_of_ble_eq_true rfl, Nat.le_of_ble_eq_true rfl, Nat.le_of_ble_eq_true rfl⟩ (Nat.le_of_ble_eq_true rfl) ?_
  refine wp_iret dX3_weeksToApology_15 rfl rfl ?_
  exact hQ
def clr (M : MM) (w : Nat) : MM := sI (sI (sI M 5 w 0) 6 w 0) 7 w 0
set_option maxRecDepth 100000 in
set_option maxHeartbeats 4000000 in
theorem c_X3_clearWall {κ : KX} {M : MM} {Q : Option Value → va_W → Prop} {w : Nat} (hw : w < 5) (hQ : Q (none) (wM κ (clr M w))) : CT κ (0, 0, 0) mX3_clearWall [rv κ 4, .int (nI w)] (wM κ M) Q := by
  refine CT.of okX3_clearWall [some (rv κ 4), some (.int (nI w))] (Nat.le_of_ble_eq_true rfl) rfl ?_
  refine wp_rload_0 dX3_clearWall_0 ?_
  refine wp_getR (t := 5) fX3_9 dX3_clearWall_1 kd_4 rfl (rf_4_0) ?_
  refine wp_iload_1 dX3_clearWall_4 ?_
  refine wp_iconst (v := 0) dX3_clearWall_5 rfl ?_
  refine wp_ast (j := w) dX3_clearWall_6 ar_5 (rfl) (by omega) ?_
  refine wp_rload_0 dX3_clearWall_7 ?_
  refine wp_getR (t := 6) fX3_15 dX3_clearWall_8 kd_4 rfl (rf_4_1) ?_
  refine wp_iload_1 dX3_clearWall_11 ?_
  refine wp_iconst (v := 0) dX3_clearWall_12 rfl ?_
  refine wp_ast (j := w) dX3_clearWall_13 ar_6 (rfl) (by omega) ?_
  refine wp_rload_0 dX3_clearWall_14 ?_
  refine wp_getR (t := 7) fX3_18 dX3_clearWall_15 kd_4 rfl (rf_4_2) ?_
  refine wp_iload_1 dX3_clearWall_18 ?_
  refine wp_iconst (v := 0) dX3_clearWall_19 rfl ?_
  refine wp_ast (j := w) dX3_clearWall_20 ar_7 (rfl) (by omega) ?_
  refine wp_vret dX3_clearWall_21 rfl rfl ?_
  exact hQ
def fgt (M : MM) : MM := sI (sI M 9 1 0) 9 2 0
set_option maxRecDepth 100000 in
set_option maxHeartbeats 4000000 in
theorem c_X1_forget {κ : KX} {M : MM} {Q : Option Value → va_W → Prop}   (hQ : Q (none) (wM κ (fgt M))) : CT κ (0, 0, 0) mX1_forget [rv κ 9] (wM κ M) Q := by
  refine CT.of okX1_forget [some (rv κ 9)] (Nat.le_of_ble_eq_true rfl) rfl ?_
  refine wp_rload_0 dX1_forget_0 ?_
  refine wp_iconst (v := 0) dX1_forget_1 rfl ?_
  refine wp_putI fX1_17 dX1_forget_2 kd_9 rfl rfl ?_
  refine wp_rload_0 dX1_forget_5 ?_
  refine wp_iconst (v := 0) dX1_forget_6 rfl ?_
  refine wp_putI fX1_21 dX1_forget_7 kd_9 rfl rfl ?_
  refine wp_vret dX1_forget_10 rfl rfl ?_
  exact hQ
def bec (M : MM) (k q : Nat) : MM :=
  let M1 := rI M (k + 1) (va_cpy (M.1 (q + 1)) (M.1 (k + 1)) 0 0 5)
  let M2 := rI M1 (k + 2) (va_cpy (M1.1 (q + 2)) (M1.1 (k + 2)) 0 0 5)
  let M3 := rI M2 (k + 3) (va_cpy (M2.1 (q + 3)) (M2.1 (k + 3)) 0 0 5)
  let M4 := rI M3 (k + 4) (va_cpy (M3.1 (q + 4)) (M3.1 (k + 4)) 0 0 6)
  let M5 := sI M4 k 4 (M4.1 q 4)
  sI M5 k 5 (M5.1 q 5)
set_option maxRecDepth 100000 in
set_option maxHeartbeats 4000000 in
theorem c_X3_become {κ : KX} {M : MM} {Q : Option Value → va_W → Prop} {k q : Nat} (hk : Sg k) (hq : Sg q) (hQ : Q (none) (wM κ (bec M k q))) : CT κ (1, 0, 0) mX3_become [rv κ k, rv κ q] (wM κ M) Q := by
  refine CT.of okX3_become [some (rv κ k), some (rv κ q)] (Nat.le_of_ble_eq_true rfl) rfl ?_
  refine wp_rload_1 dX3_become_0 ?_
  refine wp_getR (t := (q + 1)) fX3_9 dX3_become_1 hq.1 rfl (rf_sg hq.1 0) ?_
  refine wp_iconst (v := 0) dX3_become_4 rfl ?_
  refine wp_rload_0 dX3_become_5 ?_
  refine wp_getR (t := (k + 1)) fX3_9 dX3_become_6 hk.1 rfl (rf_sg hk.1 0) ?_
  refine wp_iconst (v := 0) dX3_become_9 rfl ?_
  refine wp_iconst (v := 5) dX3_become_10 rfl ?_
  refine wp_copyi (a := 0) (b := 0) (z := 5) kX3_31 dX3_become_11 hq.2.1.1 hk.2.1.1 (rfl) (rfl) (rfl) (by rw [hq.2.1.2]; omega) (by rw [hk.2.1.2]; omega) (Nat.le_of_ble_eq_true rfl) (Nat.le_of_ble_eq_true rfl) ?_
  refine wp_rload_1 dX3_become_14 ?_
  refine wp_getR (t := (q + 2)) fX3_15 dX3_become_15 hq.1 rfl (rf_sg hq.1 1) ?_
  refine wp_iconst (v := 0) dX3_become_18 rfl ?_
  refine wp_rload_0 dX3_become_19 ?_
  refine wp_getR (t := (k + 2)) fX3_15 dX3_become_20 hk.1 rfl (rf_sg hk.1 1) ?_
  refine wp_iconst (v := 0) dX3_become_23 rfl ?_
  refine wp_iconst (v := 5) dX3_become_24 rfl ?_
  refine wp_copyi (a := 0) (b := 0) (z := 5) kX3_31 dX3_become_25 hq.2.2.1.1 hk.2.2.1.1 (rfl) (rfl) (rfl) (by rw [hq.2.2.1.2]; omega) (by rw [hk.2.2.1.2]; omega) (Nat.le_of_ble_eq_true rfl) (Nat.le_of_ble_eq_true rfl) ?_
  refine wp_rload_1 dX3_become_28 ?_
  refine wp_getR (t := (q + 3)) fX3_18 dX3_become_29 hq.1 rfl (rf_sg hq.1 2) ?_
  refine wp_iconst (v := 0) dX3_become_32 rfl ?_
  refine wp_rload_0 dX3_become_33 ?_
  refine wp_getR (t := (k + 3)) fX3_18 dX3_become_34 hk.1 rfl (rf_sg hk.1 2) ?_
  refine wp_iconst (v := 0) dX3_become_37 rfl ?_
  refine wp_iconst (v := 5) dX3_become_38 rfl ?_
  refine wp_copyi (a := 0) (b := 0) (z := 5) kX3_31 dX3_become_39 hq.2.2.2.1.1 hk.2.2.2.1.1 (rfl) (rfl) (rfl) (by rw [hq.2.2.2.1.2]; omega) (by rw [hk.2.2.2.1.2]; omega) (Nat.le_of_ble_eq_true rfl) (Nat.le_of_ble_eq_true rfl) ?_
  refine wp_rload_1 dX3_become_42 ?_
  refine wp_getR (t := (q + 4)) fX3_21 dX3_become_43 hq.1 rfl (rf_sg hq.1 3) ?_
  refine wp_iconst (v := 0) dX3_become_46 rfl ?_
  refine wp_rload_0 dX3_become_47 ?_
  refine wp_getR (t := (k + 4)) fX3_21 dX3_become_48 hk.1 rfl (rf_sg hk.1 3) ?_
  refine wp_iconst (v := 0) dX3_become_51 rfl ?_
  refine wp_bipush (v := 6) dX3_become_52 rfl ?_
  refine wp_copyi (a := 0) (b := 0) (z := 6) kX3_31 dX3_become_54 hq.2.2.2.2.1 hk.2.2.2.2.1 (rfl) (rfl) (rfl) (by rw [hq.2.2.2.2.2]; omega) (by rw [hk.2.2.2.2.2]; omega) (Nat.le_of_ble_eq_true rfl) (Nat.le_of_ble_eq_true rfl) ?_
  refine wp_rload_0 dX3_become_57 ?_
  refine wp_rload_1 dX3_become_58 ?_
  refine wp_getI fX3_24 dX3_become_59 hq.1 rfl ?_
  refine wp_putI fX3_24 dX3_become_62 hk.1 rfl rfl ?_
  refine wp_rload_0 dX3_become_65 ?_
  refine wp_rload_1 dX3_become_66 ?_
  refine wp_getI fX3_28 dX3_become_67 hq.1 rfl ?_
  refine wp_putI fX3_28 dX3_become_70 hk.1 rfl rfl ?_
  refine wp_vret dX3_become_73 rfl rfl ?_
  exact hQ
