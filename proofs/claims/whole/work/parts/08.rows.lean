/-! rows for references of the world, for switches, for numbers -/
section WPW
variable {κ : KX} {r : RM} {y : MD} {pc n : Nat} {L : List (Option Value)} {st : List Value} {w : va_W} {ct : Nat × Nat} {Q : Option Value → va_W → Prop}
theorem wp_rload_0 {k : Nat} (d : St y pc (.aload_n 0) 1 n) (h : WP κ r y n (some (rv κ k) :: L) (rv κ k :: st) w ct Q) : WP κ r y pc (some (rv κ k) :: L) st w ct Q := wp_aload_0 d h
theorem wp_rstore_0 {k : Nat} {oo : Option Value} (d : St y pc (.astore_n 0) 1 n) (hi : 0 < y.2.2.1) (h : WP κ r y n (some (rv κ k) :: L) st w ct Q) : WP κ r y pc (oo :: L) (rv κ k :: st) w ct Q := wp_astore_0 d hi h
theorem wp_rload_1 {k : Nat} {o0 : Option Value} (d : St y pc (.aload_n 1) 1 n) (h : WP κ r y n (o0 :: some (rv κ k) :: L) (rv κ k :: st) w ct Q) : WP κ r y pc (o0 :: some (rv κ k) :: L) st w ct Q := wp_aload_1 d h
theorem wp_rstore_1 {k : Nat} {oo : Option Value} {o0 : Option Value} (d : St y pc (.astore_n 1) 1 n) (hi : 1 < y.2.2.1) (hc : lcat o0 = true) (h : WP κ r y n (o0 :: some (rv κ k) :: L) st w ct Q) : WP κ r y pc (o0 :: oo :: L) (rv κ k :: st) w ct Q := wp_astore_1 d hi hc h
theorem wp_rload_2 {k : Nat} {o0 : Option Value} {o1 : Option Value} (d : St y pc (.aload_n 2) 1 n) (h : WP κ r y n (o0 :: o1 :: some (rv κ k) :: L) (rv κ k :: st) w ct Q) : WP κ r y pc (o0 :: o1 :: some (rv κ k) :: L) st w ct Q := wp_aload_2 d h
theorem wp_rstore_2 {k : Nat} {oo : Option Value} {o0 : Option Value} {o1 : Option Value} (d : St y pc (.astore_n 2) 1 n) (hi : 2 < y.2.2.1) (hc : lcat o1 = true) (h : WP κ r y n (o0 :: o1 :: some (rv κ k) :: L) st w ct Q) : WP κ r y pc (o0 :: o1 :: oo :: L) (rv κ k :: st) w ct Q := wp_astore_2 d hi hc h
theorem wp_rload_3 {k : Nat} {o0 : Option Value} {o1 : Option Value} {o2 : Option Value} (d : St y pc (.aload_n 3) 1 n) (h : WP κ r y n (o0 :: o1 :: o2 :: some (rv κ k) :: L) (rv κ k :: st) w ct Q) : WP κ r y pc (o0 :: o1 :: o2 :: some (rv κ k) :: L) st w ct Q := wp_aload_3 d h
theorem wp_rstore_3 {k : Nat} {oo : Option Value} {o0 : Option Value} {o1 : Option Value} {o2 : Option Value} (d : St y pc (.astore_n 3) 1 n) (hi : 3 < y.2.2.1) (hc : lcat o2 = true) (h : WP κ r y n (o0 :: o1 :: o2 :: some (rv κ k) :: L) st w ct Q) : WP κ r y pc (o0 :: o1 :: o2 :: oo :: L) (rv κ k :: st) w ct Q := wp_astore_3 d hi hc h
theorem wp_rload_4 {k : Nat} {o0 : Option Value} {o1 : Option Value} {o2 : Option Value} {o3 : Option Value} (d : St y pc (.aload 4) 2 n) (h : WP κ r y n (o0 :: o1 :: o2 :: o3 :: some (rv κ k) :: L) (rv κ k :: st) w ct Q) : WP κ r y pc (o0 :: o1 :: o2 :: o3 :: some (rv κ k) :: L) st w ct Q := wp_aload_4 d h
theorem wp_rstore_4 {k : Nat} {oo : Option Value} {o0 : Option Value} {o1 : Option Value} {o2 : Option Value} {o3 : Option Value} (d : St y pc (.astore 4) 2 n) (hi : 4 < y.2.2.1) (hc : lcat o3 = true) (h : WP κ r y n (o0 :: o1 :: o2 :: o3 :: some (rv κ k) :: L) st w ct Q) : WP κ r y pc (o0 :: o1 :: o2 :: o3 :: oo :: L) (rv κ k :: st) w ct Q := wp_astore_4 d hi hc h
theorem wp_rload_5 {k : Nat} {o0 : Option Value} {o1 : Option Value} {o2 : Option Value} {o3 : Option Value} {o4 : Option Value} (d : St y pc (.aload 5) 2 n) (h : WP κ r y n (o0 :: o1 :: o2 :: o3 :: o4 :: some (rv κ k) :: L) (rv κ k :: st) w ct Q) : WP κ r y pc (o0 :: o1 :: o2 :: o3 :: o4 :: some (rv κ k) :: L) st w ct Q := wp_aload_5 d h
theorem wp_rstore_5 {k : Nat} {oo : Option Value} {o0 : Option Value} {o1 : Option Value} {o2 : Option Value} {o3 : Option Value} {o4 : Option Value} (d : St y pc (.astore 5) 2 n) (hi : 5 < y.2.2.1) (hc : lcat o4 = true) (h : WP κ r y n (o0 :: o1 :: o2 :: o3 :: o4 :: some (rv κ k) :: L) st w ct Q) : WP κ r y pc (o0 :: o1 :: o2 :: o3 :: o4 :: oo :: L) (rv κ k :: st) w ct Q := wp_astore_5 d hi hc h
theorem wp_rload_6 {k : Nat} {o0 : Option Value} {o1 : Option Value} {o2 : Option Value} {o3 : Option Value} {o4 : Option Value} {o5 : Option Value} (d : St y pc (.aload 6) 2 n) (h : WP κ r y n (o0 :: o1 :: o2 :: o3 :: o4 :: o5 :: some (rv κ k) :: L) (rv κ k :: st) w ct Q) : WP κ r y pc (o0 :: o1 :: o2 :: o3 :: o4 :: o5 :: some (rv κ k) :: L) st w ct Q := wp_aload_6 d h
theorem wp_rstore_6 {k : Nat} {oo : Option Value} {o0 : Option Value} {o1 : Option Value} {o2 : Option Value} {o3 : Option Value} {o4 : Option Value} {o5 : Option Value} (d : St y pc (.astore 6) 2 n) (hi : 6 < y.2.2.1) (hc : lcat o5 = true) (h : WP κ r y n (o0 :: o1 :: o2 :: o3 :: o4 :: o5 :: some (rv κ k) :: L) st w ct Q) : WP κ r y pc (o0 :: o1 :: o2 :: o3 :: o4 :: o5 :: oo :: L) (rv κ k :: st) w ct Q := wp_astore_6 d hi hc h
theorem wp_rload_7 {k : Nat} {o0 : Option Value} {o1 : Option Value} {o2 : Option Value} {o3 : Option Value} {o4 : Option Value} {o5 : Option Value} {o6 : Option Value} (d : St y pc (.aload 7) 2 n) (h : WP κ r y n (o0 :: o1 :: o2 :: o3 :: o4 :: o5 :: o6 :: some (rv κ k) :: L) (rv κ k :: st) w ct Q) : WP κ r y pc (o0 :: o1 :: o2 :: o3 :: o4 :: o5 :: o6 :: some (rv κ k) :: L) st w ct Q := wp_aload_7 d h
theorem wp_rstore_7 {k : Nat} {oo : Option Value} {o0 : Option Value} {o1 : Option Value} {o2 : Option Value} {o3 : Option Value} {o4 : Option Value} {o5 : Option Value} {o6 : Option Value} (d : St y pc (.astore 7) 2 n) (hi : 7 < y.2.2.1) (hc : lcat o6 = true) (h : WP κ r y n (o0 :: o1 :: o2 :: o3 :: o4 :: o5 :: o6 :: some (rv κ k) :: L) st w ct Q) : WP κ r y pc (o0 :: o1 :: o2 :: o3 :: o4 :: o5 :: o6 :: oo :: L) (rv κ k :: st) w ct Q := wp_astore_7 d hi hc h
theorem wp_rload_8 {k : Nat} {o0 : Option Value} {o1 : Option Value} {o2 : Option Value} {o3 : Option Value} {o4 : Option Value} {o5 : Option Value} {o6 : Option Value} {o7 : Option Value} (d : St y pc (.aload 8) 2 n) (h : WP κ r y n (o0 :: o1 :: o2 :: o3 :: o4 :: o5 :: o6 :: o7 :: some (rv κ k) :: L) (rv κ k :: st) w ct Q) : WP κ r y pc (o0 :: o1 :: o2 :: o3 :: o4 :: o5 :: o6 :: o7 :: some (rv κ k) :: L) st w ct Q := wp_aload_8 d h
theorem wp_rstore_8 {k : Nat} {oo : Option Value} {o0 : Option Value} {o1 : Option Value} {o2 : Option Value} {o3 : Option Value} {o4 : Option Value} {o5 : Option Value} {o6 : Option Value} {o7 : Option Value} (d : St y pc (.astore 8) 2 n) (hi : 8 < y.2.2.1) (hc : lcat o7 = true) (h : WP κ r y n (o0 :: o1 :: o2 :: o3 :: o4 :: o5 :: o6 :: o7 :: some (rv κ k) :: L) st w ct Q) : WP κ r y pc (o0 :: o1 :: o2 :: o3 :: o4 :: o5 :: o6 :: o7 :: oo :: L) (rv κ k :: st) w ct Q := wp_astore_8 d hi hc h
theorem wp_rload_9 {k : Nat} {o0 : Option Value} {o1 : Option Value} {o2 : Option Value} {o3 : Option Value} {o4 : Option Value} {o5 : Option Value} {o6 : Option Value} {o7 : Option Value} {o8 : Option Value} (d : St y pc (.aload 9) 2 n) (h : WP κ r y n (o0 :: o1 :: o2 :: o3 :: o4 :: o5 :: o6 :: o7 :: o8 :: some (rv κ k) :: L) (rv κ k :: st) w ct Q) : WP κ r y pc (o0 :: o1 :: o2 :: o3 :: o4 :: o5 :: o6 :: o7 :: o8 :: some (rv κ k) :: L) st w ct Q := wp_aload_9 d h
theorem wp_rstore_9 {k : Nat} {oo : Option Value} {o0 : Option Value} {o1 : Option Value} {o2 : Option Value} {o3 : Option Value} {o4 : Option Value} {o5 : Option Value} {o6 : Option Value} {o7 : Option Value} {o8 : Option Value} (d : St y pc (.astore 9) 2 n) (hi : 9 < y.2.2.1) (hc : lcat o8 = true) (h : WP κ r y n (o0 :: o1 :: o2 :: o3 :: o4 :: o5 :: o6 :: o7 :: o8 :: some (rv κ k) :: L) st w ct Q) : WP κ r y pc (o0 :: o1 :: o2 :: o3 :: o4 :: o5 :: o6 :: o7 :: o8 :: oo :: L) (rv κ k :: st) w ct Q := wp_astore_9 d hi hc h
theorem wp_dup_rv {k : Nat} (d : St y pc (.dup) 1 n) (h : WP κ r y n L (rv κ k :: rv κ k :: st) w ct Q) : WP κ r y pc L (rv κ k :: st) w ct Q := wp_dup_ref d h
theorem wp_dup2_iv {x : Int32} {k : Nat} (d : St y pc (.dup2) 1 n) (h : WP κ r y n L (.int x :: rv κ k :: .int x :: rv κ k :: st) w ct Q) : WP κ r y pc L (.int x :: rv κ k :: st) w ct Q := wp_dup2_ir d h
end WPW
theorem nI_inc (w : Nat) : nI w + Int32.ofInt 1 = nI (w + 1) := nI_1 w
theorem nI_dec (w : Nat) : nI (w + 1) + Int32.ofInt (-1) = nI w := by
  have h := pk_m1 w
  exact h
theorem i32_lt (a b : Int32) : a < b ↔ a.toInt < b.toInt := Int32.lt_iff_toInt_lt
theorem i32_le (a b : Int32) : a ≤ b ↔ a.toInt ≤ b.toInt := Int32.le_iff_toInt_le
theorem i32_eq (a b : Int32) : a = b ↔ a.toInt = b.toInt := Int32.toInt_inj.symm
theorem sw_0_5 {P : Prop} (x : Int32) (h0 : x = 0 → P) (h1 : x = 1 → P) (h2 : x = 2 → P) (h3 : x = 3 → P) (h4 : x = 4 → P) (h5 : x = 5 → P) (hd : (x.toInt < 0 ∨ 5 < x.toInt) → P) : P := by
  by_cases e0 : x = 0
  · exact h0 e0
  have e0 : ¬ x.toInt = 0 := fun q => e0 ((i32_eq x 0).mpr q)
  by_cases e1 : x = 1
  · exact h1 e1
  have e1 : ¬ x.toInt = 1 := fun q => e1 ((i32_eq x 1).mpr q)
  by_cases e2 : x = 2
  · exact h2 e2
  have e2 : ¬ x.toInt = 2 := fun q => e2 ((i32_eq x 2).mpr q)
  by_cases e3 : x = 3
  · exact h3 e3
  have e3 : ¬ x.toInt = 3 := fun q => e3 ((i32_eq x 3).mpr q)
  by_cases e4 : x = 4
  · exact h4 e4
  have e4 : ¬ x.toInt = 4 := fun q => e4 ((i32_eq x 4).mpr q)
  by_cases e5 : x = 5
  · exact h5 e5
  have e5 : ¬ x.toInt = 5 := fun q => e5 ((i32_eq x 5).mpr q)
  exact hd (by omega)
theorem sw_0_3 {P : Prop} (x : Int32) (h0 : x = 0 → P) (h1 : x = 1 → P) (h2 : x = 2 → P) (h3 : x = 3 → P) (hd : (x.toInt < 0 ∨ 3 < x.toInt) → P) : P := by
  by_cases e0 : x = 0
  · exact h0 e0
  have e0 : ¬ x.toInt = 0 := fun q => e0 ((i32_eq x 0).mpr q)
  by_cases e1 : x = 1
  · exact h1 e1
  have e1 : ¬ x.toInt = 1 := fun q => e1 ((i32_eq x 1).mpr q)
  by_cases e2 : x = 2
  · exact h2 e2
  have e2 : ¬ x.toInt = 2 := fun q => e2 ((i32_eq x 2).mpr q)
  by_cases e3 : x = 3
  · exact h3 e3
  have e3 : ¬ x.toInt = 3 := fun q => e3 ((i32_eq x 3).mpr q)
  exact hd (by omega)
theorem sw_0_9 {P : Prop} (x : Int32) (h0 : x = 0 → P) (h1 : x = 1 → P) (h2 : x = 2 → P) (h3 : x = 3 → P) (h4 : x = 4 → P) (h5 : x = 5 → P) (h6 : x = 6 → P) (h7 : x = 7 → P) (h8 : x = 8 → P) (h9 : x = 9 → P) (hd : (x.toInt < 0 ∨ 9 < x.toInt) → P) : P := by
  by_cases e0 : x = 0
  · exact h0 e0
  have e0 : ¬ x.toInt = 0 := fun q => e0 ((i32_eq x 0).mpr q)
  by_cases e1 : x = 1
  · exact h1 e1
  have e1 : ¬ x.toInt = 1 := fun q => e1 ((i32_eq x 1).mpr q)
  by_cases e2 : x = 2
  · exact h2 e2
  have e2 : ¬ x.toInt = 2 := fun q => e2 ((i32_eq x 2).mpr q)
  by_cases e3 : x = 3
  · exact h3 e3
  have e3 : ¬ x.toInt = 3 := fun q => e3 ((i32_eq x 3).mpr q)
  by_cases e4 : x = 4
  · exact h4 e4
  have e4 : ¬ x.toInt = 4 := fun q => e4 ((i32_eq x 4).mpr q)
  by_cases e5 : x = 5
  · exact h5 e5
  have e5 : ¬ x.toInt = 5 := fun q => e5 ((i32_eq x 5).mpr q)
  by_cases e6 : x = 6
  · exact h6 e6
  have e6 : ¬ x.toInt = 6 := fun q => e6 ((i32_eq x 6).mpr q)
  by_cases e7 : x = 7
  · exact h7 e7
  have e7 : ¬ x.toInt = 7 := fun q => e7 ((i32_eq x 7).mpr q)
  by_cases e8 : x = 8
  · exact h8 e8
  have e8 : ¬ x.toInt = 8 := fun q => e8 ((i32_eq x 8).mpr q)
  by_cases e9 : x = 9
  · exact h9 e9
  have e9 : ¬ x.toInt = 9 := fun q => e9 ((i32_eq x 9).mpr q)
  exact hd (by omega)
theorem sw_1_4 {P : Prop} (x : Int32) (h1 : x = 1 → P) (h2 : x = 2 → P) (h3 : x = 3 → P) (h4 : x = 4 → P) (hd : (x.toInt < 1 ∨ 4 < x.toInt) → P) : P := by
  by_cases e1 : x = 1
  · exact h1 e1
  have e1 : ¬ x.toInt = 1 := fun q => e1 ((i32_eq x 1).mpr q)
  by_cases e2 : x = 2
  · exact h2 e2
  have e2 : ¬ x.toInt = 2 := fun q => e2 ((i32_eq x 2).mpr q)
  by_cases e3 : x = 3
  · exact h3 e3
  have e3 : ¬ x.toInt = 3 := fun q => e3 ((i32_eq x 3).mpr q)
  by_cases e4 : x = 4
  · exact h4 e4
  have e4 : ¬ x.toInt = 4 := fun q => e4 ((i32_eq x 4).mpr q)
  exact hd (by omega)
theorem sw_0_2 {P : Prop} (x : Int32) (h0 : x = 0 → P) (h1 : x = 1 → P) (h2 : x = 2 → P) (hd : (x.toInt < 0 ∨ 2 < x.toInt) → P) : P := by
  by_cases e0 : x = 0
  · exact h0 e0
  have e0 : ¬ x.toInt = 0 := fun q => e0 ((i32_eq x 0).mpr q)
  by_cases e1 : x = 1
  · exact h1 e1
  have e1 : ¬ x.toInt = 1 := fun q => e1 ((i32_eq x 1).mpr q)
  by_cases e2 : x = 2
  · exact h2 e2
  have e2 : ¬ x.toInt = 2 := fun q => e2 ((i32_eq x 2).mpr q)
  exact hd (by omega)
theorem sw_0_4 {P : Prop} (x : Int32) (h0 : x = 0 → P) (h1 : x = 1 → P) (h2 : x = 2 → P) (h3 : x = 3 → P) (h4 : x = 4 → P) (hd : (x.toInt < 0 ∨ 4 < x.toInt) → P) : P := by
  by_cases e0 : x = 0
  · exact h0 e0
  have e0 : ¬ x.toInt = 0 := fun q => e0 ((i32_eq x 0).mpr q)
  by_cases e1 : x = 1
  · exact h1 e1
  have e1 : ¬ x.toInt = 1 := fun q => e1 ((i32_eq x 1).mpr q)
  by_cases e2 : x = 2
  · exact h2 e2
  have e2 : ¬ x.toInt = 2 := fun q => e2 ((i32_eq x 2).mpr q)
  by_cases e3 : x = 3
  · exact h3 e3
  have e3 : ¬ x.toInt = 3 := fun q => e3 ((i32_eq x 3).mpr q)
  by_cases e4 : x = 4
  · exact h4 e4
  have e4 : ¬ x.toInt = 4 := fun q => e4 ((i32_eq x 4).mpr q)
  exact hd (by omega)
theorem sw_0_30 {P : Prop} (x : Int32) (h0 : x = 0 → P) (h1 : x = 1 → P) (h2 : x = 2 → P) (h3 : x = 3 → P) (h4 : x = 4 → P) (h5 : x = 5 → P) (h6 : x = 6 → P) (h7 : x = 7 → P) (h8 : x = 8 → P) (h9 : x = 9 → P) (h10 : x = 10 → P) (h11 : x = 11 → P) (h12 : x = 12 → P) (h13 : x = 13 → P) (h14 : x = 14 → P) (h15 : x = 15 → P) (h16 : x = 16 → P) (h17 : x = 17 → P) (h18 : x = 18 → P) (h19 : x = 19 → P) (h20 : x = 20 → P) (h21 : x = 21 → P) (h22 : x = 22 → P) (h23 : x = 23 → P) (h24 : x = 24 → P) (h25 : x = 25 → P) (h26 : x = 26 → P) (h27 : x = 27 → P) (h28 : x = 28 → P) (h29 : x = 29 → P) (h30 : x = 30 → P) (hd : (x.toInt < 0 ∨ 30 < x.toInt) → P) : P := by
  by_cases e0 : x = 0
  · exact h0 e0
  have e0 : ¬ x.toInt = 0 := fun q => e0 ((i32_eq x 0).mpr q)
  by_cases e1 : x = 1
  · exact h1 e1
  have e1 : ¬ x.toInt = 1 := fun q => e1 ((i32_eq x 1).mpr q)
  by_cases e2 : x = 2
  · exact h2 e2
  have e2 : ¬ x.toInt = 2 := fun q => e2 ((i32_eq x 2).mpr q)
  by_cases e3 : x = 3
  · exact h3 e3
  have e3 : ¬ x.toInt = 3 := fun q => e3 ((i32_eq x 3).mpr q)
  by_cases e4 : x = 4
  · exact h4 e4
  have e4 : ¬ x.toInt = 4 := fun q => e4 ((i32_eq x 4).mpr q)
  by_cases e5 : x = 5
  · exact h5 e5
  have e5 : ¬ x.toInt = 5 := fun q => e5 ((i32_eq x 5).mpr q)
  by_cases e6 : x = 6
  · exact h6 e6
  have e6 : ¬ x.toInt = 6 := fun q => e6 ((i32_eq x 6).mpr q)
  by_cases e7 : x = 7
  · exact h7 e7
  have e7 : ¬ x.toInt = 7 := fun q => e7 ((i32_eq x 7).mpr q)
  by_cases e8 : x = 8
  · exact h8 e8
  have e8 : ¬ x.toInt = 8 := fun q => e8 ((i32_eq x 8).mpr q)
  by_cases e9 : x = 9
  · exact h9 e9
  have e9 : ¬ x.toInt = 9 := fun q => e9 ((i32_eq x 9).mpr q)
  by_cases e10 : x = 10
  · exact h10 e10
  have e10 : ¬ x.toInt = 10 := fun q => e10 ((i32_eq x 10).mpr q)
  by_cases e11 : x = 11
  · exact h11 e11
  have e11 : ¬ x.toInt = 11 := fun q => e11 ((i32_eq x 11).mpr q)
  by_cases e12 : x = 12
  · exact h12 e12
  have e12 : ¬ x.toInt = 12 := fun q => e12 ((i32_eq x 12).mpr q)
  by_cases e13 : x = 13
  · exact h13 e13
  have e13 : ¬ x.toInt = 13 := fun q => e13 ((i32_eq x 13).mpr q)
  by_cases e14 : x = 14
  · exact h14 e14
  have e14 : ¬ x.toInt = 14 := fun q => e14 ((i32_eq x 14).mpr q)
  by_cases e15 : x = 15
  · exact h15 e15
  have e15 : ¬ x.toInt = 15 := fun q => e15 ((i32_eq x 15).mpr q)
  by_cases e16 : x = 16
  · exact h16 e16
  have e16 : ¬ x.toInt = 16 := fun q => e16 ((i32_eq x 16).mpr q)
  by_cases e17 : x = 17
  · exact h17 e17
  have e17 : ¬ x.toInt = 17 := fun q => e17 ((i32_eq x 17).mpr q)
  by_cases e18 : x = 18
  · exact h18 e18
  have e18 : ¬ x.toInt = 18 := fun q => e18 ((i32_eq x 18).mpr q)
  by_cases e19 : x = 19
  · exact h19 e19
  have e19 : ¬ x.toInt = 19 := fun q => e19 ((i32_eq x 19).mpr q)
  by_cases e20 : x = 20
  · exact h20 e20
  have e20 : ¬ x.toInt = 20 := fun q => e20 ((i32_eq x 20).mpr q)
  by_cases e21 : x = 21
  · exact h21 e21
  have e21 : ¬ x.toInt = 21 := fun q => e21 ((i32_eq x 21).mpr q)
  by_cases e22 : x = 22
  · exact h22 e22
  have e22 : ¬ x.toInt = 22 := fun q => e22 ((i32_eq x 22).mpr q)
  by_cases e23 : x = 23
  · exact h23 e23
  have e23 : ¬ x.toInt = 23 := fun q => e23 ((i32_eq x 23).mpr q)
  by_cases e24 : x = 24
  · exact h24 e24
  have e24 : ¬ x.toInt = 24 := fun q => e24 ((i32_eq x 24).mpr q)
  by_cases e25 : x = 25
  · exact h25 e25
  have e25 : ¬ x.toInt = 25 := fun q => e25 ((i32_eq x 25).mpr q)
  by_cases e26 : x = 26
  · exact h26 e26
  have e26 : ¬ x.toInt = 26 := fun q => e26 ((i32_eq x 26).mpr q)
  by_cases e27 : x = 27
  · exact h27 e27
  have e27 : ¬ x.toInt = 27 := fun q => e27 ((i32_eq x 27).mpr q)
  by_cases e28 : x = 28
  · exact h28 e28
  have e28 : ¬ x.toInt = 28 := fun q => e28 ((i32_eq x 28).mpr q)
  by_cases e29 : x = 29
  · exact h29 e29
  have e29 : ¬ x.toInt = 29 := fun q => e29 ((i32_eq x 29).mpr q)
  by_cases e30 : x = 30
  · exact h30 e30
  have e30 : ¬ x.toInt = 30 := fun q => e30 ((i32_eq x 30).mpr q)
  exact hd (by omega)
