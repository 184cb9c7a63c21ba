/-! calls, by the number of their arguments; rows for the walker -/
section WPV
variable {κ : KX} {r r' : RM} {y y' : MD} {pc n : Nat} {L : List (Option Value)} {st : List Value} {w : va_W} {M : MM} {ct : Nat × Nat} {Q : Option Value → va_W → Prop}
theorem wp_callS_0 {i : Nat} (f : CS y.1.cls i y' 0) (d : St y pc (.invokestatic i) 3 n) (h : CT κ r' y' [] w (fun v w' => WP κ r y n L (psh v st) w' (ct.1 + r'.2.1, ct.2 + r'.2.2) Q)) (lv : Lev r r' ct) (hcat : (st.map fun v => v.category).sum ≤ 8) : WP κ r y pc L (st) w ct Q := wp_callS f d lv rfl rfl hcat h
theorem wp_callSN_0 {i : Nat} (f : NS y.1.cls i y' 0) (d : St y pc (.invokestatic i) 3 n) (h : CT κ r' y' [] w (fun v w' => WP κ r y n L (psh v st) w' (ct.1 + r'.2.1, ct.2 + r'.2.2) Q)) (lv : Lev r r' ct) (hcat : (st.map fun v => v.category).sum ≤ 8) : WP κ r y pc L (st) w ct Q := wp_callSN f d lv rfl rfl hcat h
theorem wp_callI_0 {i a : Nat} (f : CI y.1.cls i y' 0) (d : St y pc (.invokespecial i) 3 n) (h : CT κ r' y' (.ref a :: []) w (fun v w' => WP κ r y n L (psh v st) w' (ct.1 + r'.2.1, ct.2 + r'.2.2) Q)) (lv : Lev r r' ct) (hcat : (st.map fun v => v.category).sum ≤ 8) : WP κ r y pc L (.ref a :: st) w ct Q := wp_callI (As := []) f d lv rfl rfl hcat h
theorem wp_callIN_0 {i a : Nat} (f : NI y.1.cls i y' 0) (d : St y pc (.invokespecial i) 3 n) (h : CT κ r' y' (.ref a :: []) w (fun v w' => WP κ r y n L (psh v st) w' (ct.1 + r'.2.1, ct.2 + r'.2.2) Q)) (lv : Lev r r' ct) (hcat : (st.map fun v => v.category).sum ≤ 8) : WP κ r y pc L (.ref a :: st) w ct Q := wp_callIN (As := []) f d lv rfl rfl hcat h
theorem wp_callV_0 {i k c : Nat} (f : CV y.1.cls i y' 0) (d : St y pc (.invokevirtual i) 3 n) (hk : kd k = c) (hc : (vwCl[c]?).map (fun q => q.1) = some y'.1.cls) (h : CT κ r' y' (rv κ k :: []) (wM κ M) (fun v w' => WP κ r y n L (psh v st) w' (ct.1 + r'.2.1, ct.2 + r'.2.2) Q)) (lv : Lev r r' ct) (hcat : (st.map fun v => v.category).sum ≤ 8) : WP κ r y pc L (rv κ k :: st) (wM κ M) ct Q := wp_callV (As := []) f d hk hc lv rfl rfl hcat h
theorem wp_callS_1 {i : Nat} {a0 : Value} (f : CS y.1.cls i y' 1) (d : St y pc (.invokestatic i) 3 n) (h : CT κ r' y' [a0] w (fun v w' => WP κ r y n L (psh v st) w' (ct.1 + r'.2.1, ct.2 + r'.2.2) Q)) (lv : Lev r r' ct) (hcat : (st.map fun v => v.category).sum ≤ 8) : WP κ r y pc L (a0 :: st) w ct Q := wp_callS f d lv rfl rfl hcat h
theorem wp_callSN_1 {i : Nat} {a0 : Value} (f : NS y.1.cls i y' 1) (d : St y pc (.invokestatic i) 3 n) (h : CT κ r' y' [a0] w (fun v w' => WP κ r y n L (psh v st) w' (ct.1 + r'.2.1, ct.2 + r'.2.2) Q)) (lv : Lev r r' ct) (hcat : (st.map fun v => v.category).sum ≤ 8) : WP κ r y pc L (a0 :: st) w ct Q := wp_callSN f d lv rfl rfl hcat h
theorem wp_callI_1 {i a : Nat} {a0 : Value} (f : CI y.1.cls i y' 1) (d : St y pc (.invokespecial i) 3 n) (h : CT κ r' y' (.ref a :: [a0]) w (fun v w' => WP κ r y n L (psh v st) w' (ct.1 + r'.2.1, ct.2 + r'.2.2) Q)) (lv : Lev r r' ct) (hcat : (st.map fun v => v.category).sum ≤ 8) : WP κ r y pc L (a0 :: .ref a :: st) w ct Q := wp_callI (As := [a0]) f d lv rfl rfl hcat h
theorem wp_callIN_1 {i a : Nat} {a0 : Value} (f : NI y.1.cls i y' 1) (d : St y pc (.invokespecial i) 3 n) (h : CT κ r' y' (.ref a :: [a0]) w (fun v w' => WP κ r y n L (psh v st) w' (ct.1 + r'.2.1, ct.2 + r'.2.2) Q)) (lv : Lev r r' ct) (hcat : (st.map fun v => v.category).sum ≤ 8) : WP κ r y pc L (a0 :: .ref a :: st) w ct Q := wp_callIN (As := [a0]) f d lv rfl rfl hcat h
theorem wp_callV_1 {i k c : Nat} {a0 : Value} (f : CV y.1.cls i y' 1) (d : St y pc (.invokevirtual i) 3 n) (hk : kd k = c) (hc : (vwCl[c]?).map (fun q => q.1) = some y'.1.cls) (h : CT κ r' y' (rv κ k :: [a0]) (wM κ M) (fun v w' => WP κ r y n L (psh v st) w' (ct.1 + r'.2.1, ct.2 + r'.2.2) Q)) (lv : Lev r r' ct) (hcat : (st.map fun v => v.category).sum ≤ 8) : WP κ r y pc L (a0 :: rv κ k :: st) (wM κ M) ct Q := wp_callV (As := [a0]) f d hk hc lv rfl rfl hcat h
theorem wp_callS_2 {i : Nat} {a0 a1 : Value} (f : CS y.1.cls i y' 2) (d : St y pc (.invokestatic i) 3 n) (h : CT κ r' y' [a0, a1] w (fun v w' => WP κ r y n L (psh v st) w' (ct.1 + r'.2.1, ct.2 + r'.2.2) Q)) (lv : Lev r r' ct) (hcat : (st.map fun v => v.category).sum ≤ 8) : WP κ r y pc L (a1 :: a0 :: st) w ct Q := wp_callS f d lv rfl rfl hcat h
theorem wp_callSN_2 {i : Nat} {a0 a1 : Value} (f : NS y.1.cls i y' 2) (d : St y pc (.invokestatic i) 3 n) (h : CT κ r' y' [a0, a1] w (fun v w' => WP κ r y n L (psh v st) w' (ct.1 + r'.2.1, ct.2 + r'.2.2) Q)) (lv : Lev r r' ct) (hcat : (st.map fun v => v.category).sum ≤ 8) : WP κ r y pc L (a1 :: a0 :: st) w ct Q := wp_callSN f d lv rfl rfl hcat h
theorem wp_callI_2 {i a : Nat} {a0 a1 : Value} (f : CI y.1.cls i y' 2) (d : St y pc (.invokespecial i) 3 n) (h : CT κ r' y' (.ref a :: [a0, a1]) w (fun v w' => WP κ r y n L (psh v st) w' (ct.1 + r'.2.1, ct.2 + r'.2.2) Q)) (lv : Lev r r' ct) (hcat : (st.map fun v => v.category).sum ≤ 8) : WP κ r y pc L (a1 :: a0 :: .ref a :: st) w ct Q := wp_callI (As := [a0, a1]) f d lv rfl rfl hcat h
theorem wp_callIN_2 {i a : Nat} {a0 a1 : Value} (f : NI y.1.cls i y' 2) (d : St y pc (.invokespecial i) 3 n) (h : CT κ r' y' (.ref a :: [a0, a1]) w (fun v w' => WP κ r y n L (psh v st) w' (ct.1 + r'.2.1, ct.2 + r'.2.2) Q)) (lv : Lev r r' ct) (hcat : (st.map fun v => v.category).sum ≤ 8) : WP κ r y pc L (a1 :: a0 :: .ref a :: st) w ct Q := wp_callIN (As := [a0, a1]) f d lv rfl rfl hcat h
theorem wp_callV_2 {i k c : Nat} {a0 a1 : Value} (f : CV y.1.cls i y' 2) (d : St y pc (.invokevirtual i) 3 n) (hk : kd k = c) (hc : (vwCl[c]?).map (fun q => q.1) = some y'.1.cls) (h : CT κ r' y' (rv κ k :: [a0, a1]) (wM κ M) (fun v w' => WP κ r y n L (psh v st) w' (ct.1 + r'.2.1, ct.2 + r'.2.2) Q)) (lv : Lev r r' ct) (hcat : (st.map fun v => v.category).sum ≤ 8) : WP κ r y pc L (a1 :: a0 :: rv κ k :: st) (wM κ M) ct Q := wp_callV (As := [a0, a1]) f d hk hc lv rfl rfl hcat h
theorem wp_callS_3 {i : Nat} {a0 a1 a2 : Value} (f : CS y.1.cls i y' 3) (d : St y pc (.invokestatic i) 3 n) (h : CT κ r' y' [a0, a1, a2] w (fun v w' => WP κ r y n L (psh v st) w' (ct.1 + r'.2.1, ct.2 + r'.2.2) Q)) (lv : Lev r r' ct) (hcat : (st.map fun v => v.category).sum ≤ 8) : WP κ r y pc L (a2 :: a1 :: a0 :: st) w ct Q := wp_callS f d lv rfl rfl hcat h
theorem wp_callSN_3 {i : Nat} {a0 a1 a2 : Value} (f : NS y.1.cls i y' 3) (d : St y pc (.invokestatic i) 3 n) (h : CT κ r' y' [a0, a1, a2] w (fun v w' => WP κ r y n L (psh v st) w' (ct.1 + r'.2.1, ct.2 + r'.2.2) Q)) (lv : Lev r r' ct) (hcat : (st.map fun v => v.category).sum ≤ 8) : WP κ r y pc L (a2 :: a1 :: a0 :: st) w ct Q := wp_callSN f d lv rfl rfl hcat h
theorem wp_callI_3 {i a : Nat} {a0 a1 a2 : Value} (f : CI y.1.cls i y' 3) (d : St y pc (.invokespecial i) 3 n) (h : CT κ r' y' (.ref a :: [a0, a1, a2]) w (fun v w' => WP κ r y n L (psh v st) w' (ct.1 + r'.2.1, ct.2 + r'.2.2) Q)) (lv : Lev r r' ct) (hcat : (st.map fun v => v.category).sum ≤ 8) : WP κ r y pc L (a2 :: a1 :: a0 :: .ref a :: st) w ct Q := wp_callI (As := [a0, a1, a2]) f d lv rfl rfl hcat h
theorem wp_callIN_3 {i a : Nat} {a0 a1 a2 : Value} (f : NI y.1.cls i y' 3) (d : St y pc (.invokespecial i) 3 n) (h : CT κ r' y' (.ref a :: [a0, a1, a2]) w (fun v w' => WP κ r y n L (psh v st) w' (ct.1 + r'.2.1, ct.2 + r'.2.2) Q)) (lv : Lev r r' ct) (hcat : (st.map fun v => v.category).sum ≤ 8) : WP κ r y pc L (a2 :: a1 :: a0 :: .ref a :: st) w ct Q := wp_callIN (As := [a0, a1, a2]) f d lv rfl rfl hcat h
theorem wp_callV_3 {i k c : Nat} {a0 a1 a2 : Value} (f : CV y.1.cls i y' 3) (d : St y pc (.invokevirtual i) 3 n) (hk : kd k = c) (hc : (vwCl[c]?).map (fun q => q.1) = some y'.1.cls) (h : CT κ r' y' (rv κ k :: [a0, a1, a2]) (wM κ M) (fun v w' => WP κ r y n L (psh v st) w' (ct.1 + r'.2.1, ct.2 + r'.2.2) Q)) (lv : Lev r r' ct) (hcat : (st.map fun v => v.category).sum ≤ 8) : WP κ r y pc L (a2 :: a1 :: a0 :: rv κ k :: st) (wM κ M) ct Q := wp_callV (As := [a0, a1, a2]) f d hk hc lv rfl rfl hcat h
theorem wp_callS_4 {i : Nat} {a0 a1 a2 a3 : Value} (f : CS y.1.cls i y' 4) (d : St y pc (.invokestatic i) 3 n) (h : CT κ r' y' [a0, a1, a2, a3] w (fun v w' => WP κ r y n L (psh v st) w' (ct.1 + r'.2.1, ct.2 + r'.2.2) Q)) (lv : Lev r r' ct) (hcat : (st.map fun v => v.category).sum ≤ 8) : WP κ r y pc L (a3 :: a2 :: a1 :: a0 :: st) w ct Q := wp_callS f d lv rfl rfl hcat h
theorem wp_callSN_4 {i : Nat} {a0 a1 a2 a3 : Value} (f : NS y.1.cls i y' 4) (d : St y pc (.invokestatic i) 3 n) (h : CT κ r' y' [a0, a1, a2, a3] w (fun v w' => WP κ r y n L (psh v st) w' (ct.1 + r'.2.1, ct.2 + r'.2.2) Q)) (lv : Lev r r' ct) (hcat : (st.map fun v => v.category).sum ≤ 8) : WP κ r y pc L (a3 :: a2 :: a1 :: a0 :: st) w ct Q := wp_callSN f d lv rfl rfl hcat h
theorem wp_callI_4 {i a : Nat} {a0 a1 a2 a3 : Value} (f : CI y.1.cls i y' 4) (d : St y pc (.invokespecial i) 3 n) (h : CT κ r' y' (.ref a :: [a0, a1, a2, a3]) w (fun v w' => WP κ r y n L (psh v st) w' (ct.1 + r'.2.1, ct.2 + r'.2.2) Q)) (lv : Lev r r' ct) (hcat : (st.map fun v => v.category).sum ≤ 8) : WP κ r y pc L (a3 :: a2 :: a1 :: a0 :: .ref a :: st) w ct Q := wp_callI (As := [a0, a1, a2, a3]) f d lv rfl rfl hcat h
theorem wp_callIN_4 {i a : Nat} {a0 a1 a2 a3 : Value} (f : NI y.1.cls i y' 4) (d : St y pc (.invokespecial i) 3 n) (h : CT κ r' y' (.ref a :: [a0, a1, a2, a3]) w (fun v w' => WP κ r y n L (psh v st) w' (ct.1 + r'.2.1, ct.2 + r'.2.2) Q)) (lv : Lev r r' ct) (hcat : (st.map fun v => v.category).sum ≤ 8) : WP κ r y pc L (a3 :: a2 :: a1 :: a0 :: .ref a :: st) w ct Q := wp_callIN (As := [a0, a1, a2, a3]) f d lv rfl rfl hcat h
theorem wp_callV_4 {i k c : Nat} {a0 a1 a2 a3 : Value} (f : CV y.1.cls i y' 4) (d : St y pc (.invokevirtual i) 3 n) (hk : kd k = c) (hc : (vwCl[c]?).map (fun q => q.1) = some y'.1.cls) (h : CT κ r' y' (rv κ k :: [a0, a1, a2, a3]) (wM κ M) (fun v w' => WP κ r y n L (psh v st) w' (ct.1 + r'.2.1, ct.2 + r'.2.2) Q)) (lv : Lev r r' ct) (hcat : (st.map fun v => v.category).sum ≤ 8) : WP κ r y pc L (a3 :: a2 :: a1 :: a0 :: rv κ k :: st) (wM κ M) ct Q := wp_callV (As := [a0, a1, a2, a3]) f d hk hc lv rfl rfl hcat h
theorem wp_callS_5 {i : Nat} {a0 a1 a2 a3 a4 : Value} (f : CS y.1.cls i y' 5) (d : St y pc (.invokestatic i) 3 n) (h : CT κ r' y' [a0, a1, a2, a3, a4] w (fun v w' => WP κ r y n L (psh v st) w' (ct.1 + r'.2.1, ct.2 + r'.2.2) Q)) (lv : Lev r r' ct) (hcat : (st.map fun v => v.category).sum ≤ 8) : WP κ r y pc L (a4 :: a3 :: a2 :: a1 :: a0 :: st) w ct Q := wp_callS f d lv rfl rfl hcat h
theorem wp_callSN_5 {i : Nat} {a0 a1 a2 a3 a4 : Value} (f : NS y.1.cls i y' 5) (d : St y pc (.invokestatic i) 3 n) (h : CT κ r' y' [a0, a1, a2, a3, a4] w (fun v w' => WP κ r y n L (psh v st) w' (ct.1 + r'.2.1, ct.2 + r'.2.2) Q)) (lv : Lev r r' ct) (hcat : (st.map fun v => v.category).sum ≤ 8) : WP κ r y pc L (a4 :: a3 :: a2 :: a1 :: a0 :: st) w ct Q := wp_callSN f d lv rfl rfl hcat h
theorem wp_callI_5 {i a : Nat} {a0 a1 a2 a3 a4 : Value} (f : CI y.1.cls i y' 5) (d : St y pc (.invokespecial i) 3 n) (h : CT κ r' y' (.ref a :: [a0, a1, a2, a3, a4]) w (fun v w' => WP κ r y n L (psh v st) w' (ct.1 + r'.2.1, ct.2 + r'.2.2) Q)) (lv : Lev r r' ct) (hcat : (st.map fun v => v.category).sum ≤ 8) : WP κ r y pc L (a4 :: a3 :: a2 :: a1 :: a0 :: .ref a :: st) w ct Q := wp_callI (As := [a0, a1, a2, a3, a4]) f d lv rfl rfl hcat h
theorem wp_callIN_5 {i a : Nat} {a0 a1 a2 a3 a4 : Value} (f : NI y.1.cls i y' 5) (d : St y pc (.invokespecial i) 3 n) (h : CT κ r' y' (.ref a :: [a0, a1, a2, a3, a4]) w (fun v w' => WP κ r y n L (psh v st) w' (ct.1 + r'.2.1, ct.2 + r'.2.2) Q)) (lv : Lev r r' ct) (hcat : (st.map fun v => v.category).sum ≤ 8) : WP κ r y pc L (a4 :: a3 :: a2 :: a1 :: a0 :: .ref a :: st) w ct Q := wp_callIN (As := [a0, a1, a2, a3, a4]) f d lv rfl rfl hcat h
theorem wp_callV_5 {i k c : Nat} {a0 a1 a2 a3 a4 : Value} (f : CV y.1.cls i y' 5) (d : St y pc (.invokevirtual i) 3 n) (hk : kd k = c) (hc : (vwCl[c]?).map (fun q => q.1) = some y'.1.cls) (h : CT κ r' y' (rv κ k :: [a0, a1, a2, a3, a4]) (wM κ M) (fun v w' => WP κ r y n L (psh v st) w' (ct.1 + r'.2.1, ct.2 + r'.2.2) Q)) (lv : Lev r r' ct) (hcat : (st.map fun v => v.category).sum ≤ 8) : WP κ r y pc L (a4 :: a3 :: a2 :: a1 :: a0 :: rv κ k :: st) (wM κ M) ct Q := wp_callV (As := [a0, a1, a2, a3, a4]) f d hk hc lv rfl rfl hcat h
theorem wp_callS_6 {i : Nat} {a0 a1 a2 a3 a4 a5 : Value} (f : CS y.1.cls i y' 6) (d : St y pc (.invokestatic i) 3 n) (h : CT κ r' y' [a0, a1, a2, a3, a4, a5] w (fun v w' => WP κ r y n L (psh v st) w' (ct.1 + r'.2.1, ct.2 + r'.2.2) Q)) (lv : Lev r r' ct) (hcat : (st.map fun v => v.category).sum ≤ 8) : WP κ r y pc L (a5 :: a4 :: a3 :: a2 :: a1 :: a0 :: st) w ct Q := wp_callS f d lv rfl rfl hcat h
theorem wp_callSN_6 {i : Nat} {a0 a1 a2 a3 a4 a5 : Value} (f : NS y.1.cls i y' 6) (d : St y pc (.invokestatic i) 3 n) (h : CT κ r' y' [a0, a1, a2, a3, a4, a5] w (fun v w' => WP κ r y n L (psh v st) w' (ct.1 + r'.2.1, ct.2 + r'.2.2) Q)) (lv : Lev r r' ct) (hcat : (st.map fun v => v.category).sum ≤ 8) : WP κ r y pc L (a5 :: a4 :: a3 :: a2 :: a1 :: a0 :: st) w ct Q := wp_callSN f d lv rfl rfl hcat h
theorem wp_callI_6 {i a : Nat} {a0 a1 a2 a3 a4 a5 : Value} (f : CI y.1.cls i y' 6) (d : St y pc (.invokespecial i) 3 n) (h : CT κ r' y' (.ref a :: [a0, a1, a2, a3, a4, a5]) w (fun v w' => WP κ r y n L (psh v st) w' (ct.1 + r'.2.1, ct.2 + r'.2.2) Q)) (lv : Lev r r' ct) (hcat : (st.map fun v => v.category).sum ≤ 8) : WP κ r y pc L (a5 :: a4 :: a3 :: a2 :: a1 :: a0 :: .ref a :: st) w ct Q := wp_callI (As := [a0, a1, a2, a3, a4, a5]) f d lv rfl rfl hcat h
theorem wp_callIN_6 {i a : Nat} {a0 a1 a2 a3 a4 a5 : Value} (f : NI y.1.cls i y' 6) (d : St y pc (.invokespecial i) 3 n) (h : CT κ r' y' (.ref a :: [a0, a1, a2, a3, a4, a5]) w (fun v w' => WP κ r y n L (psh v st) w' (ct.1 + r'.2.1, ct.2 + r'.2.2) Q)) (lv : Lev r r' ct) (hcat : (st.map fun v => v.category).sum ≤ 8) : WP κ r y pc L (a5 :: a4 :: a3 :: a2 :: a1 :: a0 :: .ref a :: st) w ct Q := wp_callIN (As := [a0, a1, a2, a3, a4, a5]) f d lv rfl rfl hcat h
theorem wp_callV_6 {i k c : Nat} {a0 a1 a2 a3 a4 a5 : Value} (f : CV y.1.cls i y' 6) (d : St y pc (.invokevirtual i) 3 n) (hk : kd k = c) (hc : (vwCl[c]?).map (fun q => q.1) = some y'.1.cls) (h : CT κ r' y' (rv κ k :: [a0, a1, a2, a3, a4, a5]) (wM κ M) (fun v w' => WP κ r y n L (psh v st) w' (ct.1 + r'.2.1, ct.2 + r'.2.2) Q)) (lv : Lev r r' ct) (hcat : (st.map fun v => v.category).sum ≤ 8) : WP κ r y pc L (a5 :: a4 :: a3 :: a2 :: a1 :: a0 :: rv κ k :: st) (wM κ M) ct Q := wp_callV (As := [a0, a1, a2, a3, a4, a5]) f d hk hc lv rfl rfl hcat h
theorem wp_callS_7 {i : Nat} {a0 a1 a2 a3 a4 a5 a6 : Value} (f : CS y.1.cls i y' 7) (d : St y pc (.invokestatic i) 3 n) (h : CT κ r' y' [a0, a1, a2, a3, a4, a5, a6] w (fun v w' => WP κ r y n L (psh v st) w' (ct.1 + r'.2.1, ct.2 + r'.2.2) Q)) (lv : Lev r r' ct) (hcat : (st.map fun v => v.category).sum ≤ 8) : WP κ r y pc L (a6 :: a5 :: a4 :: a3 :: a2 :: a1 :: a0 :: st) w ct Q := wp_callS f d lv rfl rfl hcat h
theorem wp_callSN_7 {i : Nat} {a0 a1 a2 a3 a4 a5 a6 : Value} (f : NS y.1.cls i y' 7) (d : St y pc (.invokestatic i) 3 n) (h : CT κ r' y' [a0, a1, a2, a3, a4, a5, a6] w (fun v w' => WP κ r y n L (psh v st) w' (ct.1 + r'.2.1, ct.2 + r'.2.2) Q)) (lv : Lev r r' ct) (hcat : (st.map fun v => v.category).sum ≤ 8) : WP κ r y pc L (a6 :: a5 :: a4 :: a3 :: a2 :: a1 :: a0 :: st) w ct Q := wp_callSN f d lv rfl rfl hcat h
theorem wp_callI_7 {i a : Nat} {a0 a1 a2 a3 a4 a5 a6 : Value} (f : CI y.1.cls i y' 7) (d : St y pc (.invokespecial i) 3 n) (h : CT κ r' y' (.ref a :: [a0, a1, a2, a3, a4, a5, a6]) w (fun v w' => WP κ r y n L (psh v st) w' (ct.1 + r'.2.1, ct.2 + r'.2.2) Q)) (lv : Lev r r' ct) (hcat : (st.map fun v => v.category).sum ≤ 8) : WP κ r y pc L (a6 :: a5 :: a4 :: a3 :: a2 :: a1 :: a0 :: .ref a :: st) w ct Q := wp_callI (As := [a0, a1, a2, a3, a4, a5, a6]) f d lv rfl rfl hcat h
theorem wp_callIN_7 {i a : Nat} {a0 a1 a2 a3 a4 a5 a6 : Value} (f : NI y.1.cls i y' 7) (d : St y pc (.invokespecial i) 3 n) (h : CT κ r' y' (.ref a :: [a0, a1, a2, a3, a4, a5, a6]) w (fun v w' => WP κ r y n L (psh v st) w' (ct.1 + r'.2.1, ct.2 + r'.2.2) Q)) (lv : Lev r r' ct) (hcat : (st.map fun v => v.category).sum ≤ 8) : WP κ r y pc L (a6 :: a5 :: a4 :: a3 :: a2 :: a1 :: a0 :: .ref a :: st) w ct Q := wp_callIN (As := [a0, a1, a2, a3, a4, a5, a6]) f d lv rfl rfl hcat h
theorem wp_callV_7 {i k c : Nat} {a0 a1 a2 a3 a4 a5 a6 : Value} (f : CV y.1.cls i y' 7) (d : St y pc (.invokevirtual i) 3 n) (hk : kd k = c) (hc : (vwCl[c]?).map (fun q => q.1) = some y'.1.cls) (h : CT κ r' y' (rv κ k :: [a0, a1, a2, a3, a4, a5, a6]) (wM κ M) (fun v w' => WP κ r y n L (psh v st) w' (ct.1 + r'.2.1, ct.2 + r'.2.2) Q)) (lv : Lev r r' ct) (hcat : (st.map fun v => v.category).sum ≤ 8) : WP κ r y pc L (a6 :: a5 :: a4 :: a3 :: a2 :: a1 :: a0 :: rv κ k :: st) (wM κ M) ct Q := wp_callV (As := [a0, a1, a2, a3, a4, a5, a6]) f d hk hc lv rfl rfl hcat h
end WPV
def AR (k N : Nat) : Prop := kd k = 10 ∧ ln k = N
theorem Qe {Q : Option Value → va_W → Prop} {a a' : Int32} {w w' : va_W} (h : Q (some (.int a)) w) (h1 : a' = a) (h2 : w' = w) : Q (some (.int a')) w' := by subst h1; subst h2; exact h
theorem Qv {Q : Option Value → va_W → Prop} {a : Option Value} {w w' : va_W} (h : Q a w) (h2 : w' = w) : Q a w' := by subst h2; exact h
theorem kd_0 : kd 0 = 6 := rfl
theorem rf_0_0 : rf 0 0 = 1 := rfl
theorem rf_0_1 : rf 0 1 = 51 := rfl
theorem rf_0_3 : rf 0 3 = 101 := rfl
theorem rf_0_4 : rf 0 4 = 106 := rfl
theorem rf_0_5 : rf 0 5 = 111 := rfl
theorem kd_1 : kd 1 = 4 := rfl
theorem rf_1_0 : rf 1 0 = 2 := rfl
theorem rf_1_1 : rf 1 1 = 3 := rfl
theorem rf_1_5 : rf 1 5 = 4 := rfl
theorem rf_1_6 : rf 1 6 = 9 := rfl
theorem kd_2 : kd 2 = 10 := rfl
theorem ln_2 : ln 2 = 6 := rfl
theorem ar_2 : AR 2 6 := ⟨kd_2, ln_2⟩
theorem kd_3 : kd 3 = 10 := rfl
theorem ln_3 : ln 3 = 6 := rfl
theorem ar_3 : AR 3 6 := ⟨kd_3, ln_3⟩
theorem kd_4 : kd 4 = 3 := rfl
theorem rf_4_0 : rf 4 0 = 5 := rfl
theorem rf_4_1 : rf 4 1 = 6 := rfl
theorem rf_4_2 : rf 4 2 = 7 := rfl
theorem rf_4_3 : rf 4 3 = 8 := rfl
theorem kd_5 : kd 5 = 10 := rfl
theorem ln_5 : ln 5 = 5 := rfl
theorem ar_5 : AR 5 5 := ⟨kd_5, ln_5⟩
theorem kd_6 : kd 6 = 10 := rfl
theorem ln_6 : ln 6 = 5 := rfl
theorem ar_6 : AR 6 5 := ⟨kd_6, ln_6⟩
theorem kd_7 : kd 7 = 10 := rfl
theorem ln_7 : ln 7 = 5 := rfl
theorem ar_7 : AR 7 5 := ⟨kd_7, ln_7⟩
theorem kd_8 : kd 8 = 10 := rfl
theorem ln_8 : ln 8 = 6 := rfl
theorem ar_8 : AR 8 6 := ⟨kd_8, ln_8⟩
theorem kd_9 : kd 9 = 1 := rfl
theorem rf_9_0 : rf 9 0 = 10 := rfl
theorem kd_10 : kd 10 = 13 := rfl
theorem ln_10 : ln 10 = 8 := rfl
theorem kd_11 : kd 11 = 3 := rfl
theorem rf_11_0 : rf 11 0 = 12 := rfl
theorem rf_11_1 : rf 11 1 = 13 := rfl
theorem rf_11_2 : rf 11 2 = 14 := rfl
theorem rf_11_3 : rf 11 3 = 15 := rfl
theorem kd_12 : kd 12 = 10 := rfl
theorem ln_12 : ln 12 = 5 := rfl
theorem ar_12 : AR 12 5 := ⟨kd_12, ln_12⟩
theorem kd_13 : kd 13 = 10 := rfl
theorem ln_13 : ln 13 = 5 := rfl
theorem ar_13 : AR 13 5 := ⟨kd_13, ln_13⟩
theorem kd_14 : kd 14 = 10 := rfl
theorem ln_14 : ln 14 = 5 := rfl
theorem ar_14 : AR 14 5 := ⟨kd_14, ln_14⟩
theorem kd_15 : kd 15 = 10 := rfl
theorem ln_15 : ln 15 = 6 := rfl
theorem ar_15 : AR 15 6 := ⟨kd_15, ln_15⟩
theorem kd_16 : kd 16 = 3 := rfl
theorem rf_16_0 : rf 16 0 = 17 := rfl
theorem rf_16_1 : rf 16 1 = 18 := rfl
theorem rf_16_2 : rf 16 2 = 19 := rfl
theorem rf_16_3 : rf 16 3 = 20 := rfl
theorem kd_17 : kd 17 = 10 := rfl
theorem ln_17 : ln 17 = 5 := rfl
theorem ar_17 : AR 17 5 := ⟨kd_17, ln_17⟩
theorem kd_18 : kd 18 = 10 := rfl
theorem ln_18 : ln 18 = 5 := rfl
theorem ar_18 : AR 18 5 := ⟨kd_18, ln_18⟩
theorem kd_19 : kd 19 = 10 := rfl
theorem ln_19 : ln 19 = 5 := rfl
theorem ar_19 : AR 19 5 := ⟨kd_19, ln_19⟩
theorem kd_20 : kd 20 = 10 := rfl
theorem ln_20 : ln 20 = 6 := rfl
theorem ar_20 : AR 20 6 := ⟨kd_20, ln_20⟩
theorem kd_21 : kd 21 = 3 := rfl
theorem rf_21_0 : rf 21 0 = 22 := rfl
theorem rf_21_1 : rf 21 1 = 23 := rfl
theorem rf_21_2 : rf 21 2 = 24 := rfl
theorem rf_21_3 : rf 21 3 = 25 := rfl
theorem kd_22 : kd 22 = 10 := rfl
theorem ln_22 : ln 22 = 5 := rfl
theorem ar_22 : AR 22 5 := ⟨kd_22, ln_22⟩
theorem kd_23 : kd 23 = 10 := rfl
theorem ln_23 : ln 23 = 5 := rfl
theorem ar_23 : AR 23 5 := ⟨kd_23, ln_23⟩
theorem kd_24 : kd 24 = 10 := rfl
theorem ln_24 : ln 24 = 5 := rfl
theorem ar_24 : AR 24 5 := ⟨kd_24, ln_24⟩
theorem kd_25 : kd 25 = 10 := rfl
theorem ln_25 : ln 25 = 6 := rfl
theorem ar_25 : AR 25 6 := ⟨kd_25, ln_25⟩
theorem kd_26 : kd 26 = 3 := rfl
theorem rf_26_0 : rf 26 0 = 27 := rfl
theorem rf_26_1 : rf 26 1 = 28 := rfl
theorem rf_26_2 : rf 26 2 = 29 := rfl
theorem rf_26_3 : rf 26 3 = 30 := rfl
theorem kd_27 : kd 27 = 10 := rfl
theorem ln_27 : ln 27 = 5 := rfl
theorem ar_27 : AR 27 5 := ⟨kd_27, ln_27⟩
theorem kd_28 : kd 28 = 10 := rfl
theorem ln_28 : ln 28 = 5 := rfl
theorem ar_28 : AR 28 5 := ⟨kd_28, ln_28⟩
theorem kd_29 : kd 29 = 10 := rfl
theorem ln_29 : ln 29 = 5 := rfl
theorem ar_29 : AR 29 5 := ⟨kd_29, ln_29⟩
theorem kd_30 : kd 30 = 10 := rfl
theorem ln_30 : ln 30 = 6 := rfl
theorem ar_30 : AR 30 6 := ⟨kd_30, ln_30⟩
theorem kd_31 : kd 31 = 3 := rfl
theorem rf_31_0 : rf 31 0 = 32 := rfl
theorem rf_31_1 : rf 31 1 = 33 := rfl
theorem rf_31_2 : rf 31 2 = 34 := rfl
theorem rf_31_3 : rf 31 3 = 35 := rfl
theorem kd_32 : kd 32 = 10 := rfl
theorem ln_32 : ln 32 = 5 := rfl
theorem ar_32 : AR 32 5 := ⟨kd_32, ln_32⟩
theorem kd_33 : kd 33 = 10 := rfl
theorem ln_33 : ln 33 = 5 := rfl
theorem ar_33 : AR 33 5 := ⟨kd_33, ln_33⟩
theorem kd_34 : kd 34 = 10 := rfl
theorem ln_34 : ln 34 = 5 := rfl
theorem ar_34 : AR 34 5 := ⟨kd_34, ln_34⟩
theorem kd_35 : kd 35 = 10 := rfl
theorem ln_35 : ln 35 = 6 := rfl
theorem ar_35 : AR 35 6 := ⟨kd_35, ln_35⟩
theorem kd_36 : kd 36 = 3 := rfl
theorem rf_36_0 : rf 36 0 = 37 := rfl
theorem rf_36_1 : rf 36 1 = 38 := rfl
theorem rf_36_2 : rf 36 2 = 39 := rfl
theorem rf_36_3 : rf 36 3 = 40 := rfl
theorem kd_37 : kd 37 = 10 := rfl
theorem ln_37 : ln 37 = 5 := rfl
theorem ar_37 : AR 37 5 := ⟨kd_37, ln_37⟩
theorem kd_38 : kd 38 = 10 := rfl
theorem ln_38 : ln 38 = 5 := rfl
theorem ar_38 : AR 38 5 := ⟨kd_38, ln_38⟩
theorem kd_39 : kd 39 = 10 := rfl
theorem ln_39 : ln 39 = 5 := rfl
theorem ar_39 : AR 39 5 := ⟨kd_39, ln_39⟩
theorem kd_40 : kd 40 = 10 := rfl
theorem ln_40 : ln 40 = 6 := rfl
theorem ar_40 : AR 40 6 := ⟨kd_40, ln_40⟩
theorem kd_41 : kd 41 = 3 := rfl
theorem rf_41_0 : rf 41 0 = 42 := rfl
theorem rf_41_1 : rf 41 1 = 43 := rfl
theorem rf_41_2 : rf 41 2 = 44 := rfl
theorem rf_41_3 : rf 41 3 = 45 := rfl
theorem kd_42 : kd 42 = 10 := rfl
theorem ln_42 : ln 42 = 5 := rfl
theorem ar_42 : AR 42 5 := ⟨kd_42, ln_42⟩
theorem kd_43 : kd 43 = 10 := rfl
theorem ln_43 : ln 43 = 5 := rfl
theorem ar_43 : AR 43 5 := ⟨kd_43, ln_43⟩
theorem kd_44 : kd 44 = 10 := rfl
theorem ln_44 : ln 44 = 5 := rfl
theorem ar_44 : AR 44 5 := ⟨kd_44, ln_44⟩
theorem kd_45 : kd 45 = 10 := rfl
theorem ln_45 : ln 45 = 6 := rfl
theorem ar_45 : AR 45 6 := ⟨kd_45, ln_45⟩
theorem kd_46 : kd 46 = 3 := rfl
theorem rf_46_0 : rf 46 0 = 47 := rfl
theorem rf_46_1 : rf 46 1 = 48 := rfl
theorem rf_46_2 : rf 46 2 = 49 := rfl
theorem rf_46_3 : rf 46 3 = 50 := rfl
theorem kd_47 : kd 47 = 10 := rfl
theorem ln_47 : ln 47 = 5 := rfl
theorem ar_47 : AR 47 5 := ⟨kd_47, ln_47⟩
theorem kd_48 : kd 48 = 10 := rfl
theorem ln_48 : ln 48 = 5 := rfl
theorem ar_48 : AR 48 5 := ⟨kd_48, ln_48⟩
theorem kd_49 : kd 49 = 10 := rfl
theorem ln_49 : ln 49 = 5 := rfl
theorem ar_49 : AR 49 5 := ⟨kd_49, ln_49⟩
theorem kd_50 : kd 50 = 10 := rfl
theorem ln_50 : ln 50 = 6 := rfl
theorem ar_50 : AR 50 6 := ⟨kd_50, ln_50⟩
theorem kd_51 : kd 51 = 4 := rfl
theorem rf_51_0 : rf 51 0 = 52 := rfl
theorem rf_51_1 : rf 51 1 = 53 := rfl
theorem rf_51_5 : rf 51 5 = 54 := rfl
theorem rf_51_6 : rf 51 6 = 59 := rfl
theorem kd_52 : kd 52 = 10 := rfl
theorem ln_52 : ln 52 = 6 := rfl
theorem ar_52 : AR 52 6 := ⟨kd_52, ln_52⟩
theorem kd_53 : kd 53 = 10 := rfl
theorem ln_53 : ln 53 = 6 := rfl
theorem ar_53 : AR 53 6 := ⟨kd_53, ln_53⟩
theorem kd_54 : kd 54 = 3 := rfl
theorem rf_54_0 : rf 54 0 = 55 := rfl
theorem rf_54_1 : rf 54 1 = 56 := rfl
theorem rf_54_2 : rf 54 2 = 57 := rfl
theorem rf_54_3 : rf 54 3 = 58 := rfl
theorem kd_55 : kd 55 = 10 := rfl
theorem ln_55 : ln 55 = 5 := rfl
theorem ar_55 : AR 55 5 := ⟨kd_55, ln_55⟩
theorem kd_56 : kd 56 = 10 := rfl
theorem ln_56 : ln 56 = 5 := rfl
theorem ar_56 : AR 56 5 := ⟨kd_56, ln_56⟩
theorem kd_57 : kd 57 = 10 := rfl
theorem ln_57 : ln 57 = 5 := rfl
theorem ar_57 : AR 57 5 := ⟨kd_57, ln_57⟩
theorem kd_58 : kd 58 = 10 := rfl
theorem ln_58 : ln 58 = 6 := rfl
theorem ar_58 : AR 58 6 := ⟨kd_58, ln_58⟩
theorem kd_59 : kd 59 = 1 := rfl
theorem rf_59_0 : rf 59 0 = 60 := rfl
theorem kd_60 : kd 60 = 13 := rfl
theorem ln_60 : ln 60 = 8 := rfl
theorem kd_61 : kd 61 = 3 := rfl
theorem rf_61_0 : rf 61 0 = 62 := rfl
theorem rf_61_1 : rf 61 1 = 63 := rfl
theorem rf_61_2 : rf 61 2 = 64 := rfl
theorem rf_61_3 : rf 61 3 = 65 := rfl
theorem kd_62 : kd 62 = 10 := rfl
theorem ln_62 : ln 62 = 5 := rfl
theorem ar_62 : AR 62 5 := ⟨kd_62, ln_62⟩
theorem kd_63 : kd 63 = 10 := rfl
theorem ln_63 : ln 63 = 5 := rfl
theorem ar_63 : AR 63 5 := ⟨kd_63, ln_63⟩
theorem kd_64 : kd 64 = 10 := rfl
theorem ln_64 : ln 64 = 5 := rfl
theorem ar_64 : AR 64 5 := ⟨kd_64, ln_64⟩
theorem kd_65 : kd 65 = 10 := rfl
theorem ln_65 : ln 65 = 6 := rfl
theorem ar_65 : AR 65 6 := ⟨kd_65, ln_65⟩
theorem kd_66 : kd 66 = 3 := rfl
theorem rf_66_0 : rf 66 0 = 67 := rfl
theorem rf_66_1 : rf 66 1 = 68 := rfl
theorem rf_66_2 : rf 66 2 = 69 := rfl
theorem rf_66_3 : rf 66 3 = 70 := rfl
theorem kd_67 : kd 67 = 10 := rfl
theorem ln_67 : ln 67 = 5 := rfl
theorem ar_67 : AR 67 5 := ⟨kd_67, ln_67⟩
theorem kd_68 : kd 68 = 10 := rfl
theorem ln_68 : ln 68 = 5 := rfl
theorem ar_68 : AR 68 5 := ⟨kd_68, ln_68⟩
theorem kd_69 : kd 69 = 10 := rfl
theorem ln_69 : ln 69 = 5 := rfl
theorem ar_69 : AR 69 5 := ⟨kd_69, ln_69⟩
theorem kd_70 : kd 70 = 10 := rfl
theorem ln_70 : ln 70 = 6 := rfl
theorem ar_70 : AR 70 6 := ⟨kd_70, ln_70⟩
theorem kd_71 : kd 71 = 3 := rfl
theorem rf_71_0 : rf 71 0 = 72 := rfl
theorem rf_71_1 : rf 71 1 = 73 := rfl
theorem rf_71_2 : rf 71 2 = 74 := rfl
theorem rf_71_3 : rf 71 3 = 75 := rfl
theorem kd_72 : kd 72 = 10 := rfl
theorem ln_72 : ln 72 = 5 := rfl
theorem ar_72 : AR 72 5 := ⟨kd_72, ln_72⟩
theorem kd_73 : kd 73 = 10 := rfl
theorem ln_73 : ln 73 = 5 := rfl
theorem ar_73 : AR 73 5 := ⟨kd_73, ln_73⟩
theorem kd_74 : kd 74 = 10 := rfl
theorem ln_74 : ln 74 = 5 := rfl
theorem ar_74 : AR 74 5 := ⟨kd_74, ln_74⟩
theorem kd_75 : kd 75 = 10 := rfl
theorem ln_75 : ln 75 = 6 := rfl
theorem ar_75 : AR 75 6 := ⟨kd_75, ln_75⟩
theorem kd_76 : kd 76 = 3 := rfl
theorem rf_76_0 : rf 76 0 = 77 := rfl
theorem rf_76_1 : rf 76 1 = 78 := rfl
theorem rf_76_2 : rf 76 2 = 79 := rfl
theorem rf_76_3 : rf 76 3 = 80 := rfl
theorem kd_77 : kd 77 = 10 := rfl
theorem ln_77 : ln 77 = 5 := rfl
theorem ar_77 : AR 77 5 := ⟨kd_77, ln_77⟩
theorem kd_78 : kd 78 = 10 := rfl
theorem ln_78 : ln 78 = 5 := rfl
theorem ar_78 : AR 78 5 := ⟨kd_78, ln_78⟩
theorem kd_79 : kd 79 = 10 := rfl
theorem ln_79 : ln 79 = 5 := rfl
theorem ar_79 : AR 79 5 := ⟨kd_79, ln_79⟩
theorem kd_80 : kd 80 = 10 := rfl
theorem ln_80 : ln 80 = 6 := rfl
theorem ar_80 : AR 80 6 := ⟨kd_80, ln_80⟩
theorem kd_81 : kd 81 = 3 := rfl
theorem rf_81_0 : rf 81 0 = 82 := rfl
theorem rf_81_1 : rf 81 1 = 83 := rfl
theorem rf_81_2 : rf 81 2 = 84 := rfl
theorem rf_81_3 : rf 81 3 = 85 := rfl
theorem kd_82 : kd 82 = 10 := rfl
theorem ln_82 : ln 82 = 5 := rfl
theorem ar_82 : AR 82 5 := ⟨kd_82, ln_82⟩
theorem kd_83 : kd 83 = 10 := rfl
theorem ln_83 : ln 83 = 5 := rfl
theorem ar_83 : AR 83 5 := ⟨kd_83, ln_83⟩
theorem kd_84 : kd 84 = 10 := rfl
theorem ln_84 : ln 84 = 5 := rfl
theorem ar_84 : AR 84 5 := ⟨kd_84, ln_84⟩
theorem kd_85 : kd 85 = 10 := rfl
theorem ln_85 : ln 85 = 6 := rfl
theorem ar_85 : AR 85 6 := ⟨kd_85, ln_85⟩
theorem kd_86 : kd 86 = 3 := rfl
theorem rf_86_0 : rf 86 0 = 87 := rfl
theorem rf_86_1 : rf 86 1 = 88 := rfl
theorem rf_86_2 : rf 86 2 = 89 := rfl
theorem rf_86_3 : rf 86 3 = 90 := rfl
theorem kd_87 : kd 87 = 10 := rfl
theorem ln_87 : ln 87 = 5 := rfl
theorem ar_87 : AR 87 5 := ⟨kd_87, ln_87⟩
theorem kd_88 : kd 88 = 10 := rfl
theorem ln_88 : ln 88 = 5 := rfl
theorem ar_88 : AR 88 5 := ⟨kd_88, ln_88⟩
theorem kd_89 : kd 89 = 10 := rfl
theorem ln_89 : ln 89 = 5 := rfl
theorem ar_89 : AR 89 5 := ⟨kd_89, ln_89⟩
theorem kd_90 : kd 90 = 10 := rfl
theorem ln_90 : ln 90 = 6 := rfl
theorem ar_90 : AR 90 6 := ⟨kd_90, ln_90⟩
theorem kd_91 : kd 91 = 3 := rfl
theorem rf_91_0 : rf 91 0 = 92 := rfl
theorem rf_91_1 : rf 91 1 = 93 := rfl
theorem rf_91_2 : rf 91 2 = 94 := rfl
theorem rf_91_3 : rf 91 3 = 95 := rfl
theorem kd_92 : kd 92 = 10 := rfl
theorem ln_92 : ln 92 = 5 := rfl
theorem ar_92 : AR 92 5 := ⟨kd_92, ln_92⟩
theorem kd_93 : kd 93 = 10 := rfl
theorem ln_93 : ln 93 = 5 := rfl
theorem ar_93 : AR 93 5 := ⟨kd_93, ln_93⟩
theorem kd_94 : kd 94 = 10 := rfl
theorem ln_94 : ln 94 = 5 := rfl
theorem ar_94 : AR 94 5 := ⟨kd_94, ln_94⟩
theorem kd_95 : kd 95 = 10 := rfl
theorem ln_95 : ln 95 = 6 := rfl
theorem ar_95 : AR 95 6 := ⟨kd_95, ln_95⟩
theorem kd_96 : kd 96 = 3 := rfl
theorem rf_96_0 : rf 96 0 = 97 := rfl
theorem rf_96_1 : rf 96 1 = 98 := rfl
theorem rf_96_2 : rf 96 2 = 99 := rfl
theorem rf_96_3 : rf 96 3 = 100 := rfl
theorem kd_97 : kd 97 = 10 := rfl
theorem ln_97 : ln 97 = 5 := rfl
theorem ar_97 : AR 97 5 := ⟨kd_97, ln_97⟩
theorem kd_98 : kd 98 = 10 := rfl
theorem ln_98 : ln 98 = 5 := rfl
theorem ar_98 : AR 98 5 := ⟨kd_98, ln_98⟩
theorem kd_99 : kd 99 = 10 := rfl
theorem ln_99 : ln 99 = 5 := rfl
theorem ar_99 : AR 99 5 := ⟨kd_99, ln_99⟩
theorem kd_100 : kd 100 = 10 := rfl
theorem ln_100 : ln 100 = 6 := rfl
theorem ar_100 : AR 100 6 := ⟨kd_100, ln_100⟩
theorem kd_101 : kd 101 = 0 := rfl
theorem rf_101_0 : rf 101 0 = 1 := rfl
theorem rf_101_1 : rf 101 1 = 102 := rfl
theorem rf_101_2 : rf 101 2 = 103 := rfl
theorem rf_101_3 : rf 101 3 = 104 := rfl
theorem rf_101_4 : rf 101 4 = 105 := rfl
theorem kd_102 : kd 102 = 10 := rfl
theorem ln_102 : ln 102 = 5 := rfl
theorem ar_102 : AR 102 5 := ⟨kd_102, ln_102⟩
theorem kd_103 : kd 103 = 10 := rfl
theorem ln_103 : ln 103 = 5 := rfl
theorem ar_103 : AR 103 5 := ⟨kd_103, ln_103⟩
theorem kd_104 : kd 104 = 10 := rfl
theorem ln_104 : ln 104 = 5 := rfl
theorem ar_104 : AR 104 5 := ⟨kd_104, ln_104⟩
theorem kd_105 : kd 105 = 10 := rfl
theorem ln_105 : ln 105 = 5 := rfl
theorem ar_105 : AR 105 5 := ⟨kd_105, ln_105⟩
theorem kd_106 : kd 106 = 5 := rfl
theorem rf_106_0 : rf 106 0 = 107 := rfl
theorem rf_106_2 : rf 106 2 = 108 := rfl
theorem rf_106_3 : rf 106 3 = 109 := rfl
theorem rf_106_4 : rf 106 4 = 110 := rfl
theorem kd_107 : kd 107 = 11 := rfl
theorem ln_107 : ln 107 = 60 := rfl
theorem kd_108 : kd 108 = 10 := rfl
theorem ln_108 : ln 108 = 6 := rfl
theorem ar_108 : AR 108 6 := ⟨kd_108, ln_108⟩
theorem kd_109 : kd 109 = 10 := rfl
theorem ln_109 : ln 109 = 6 := rfl
theorem ar_109 : AR 109 6 := ⟨kd_109, ln_109⟩
theorem kd_110 : kd 110 = 10 := rfl
theorem ln_110 : ln 110 = 5 := rfl
theorem ar_110 : AR 110 5 := ⟨kd_110, ln_110⟩
theorem kd_111 : kd 111 = 14 := rfl
theorem ln_111 : ln 111 = 4 := rfl
theorem kd_112 : kd 112 = 2 := rfl
theorem rf_112_0 : rf 112 0 = 113 := rfl
theorem kd_113 : kd 113 = 12 := rfl
theorem ln_113 : ln 113 = 24 := rfl
theorem kd_114 : kd 114 = 2 := rfl
theorem rf_114_0 : rf 114 0 = 115 := rfl
theorem kd_115 : kd 115 = 12 := rfl
theorem ln_115 : ln 115 = 24 := rfl
theorem kd_116 : kd 116 = 2 := rfl
theorem rf_116_0 : rf 116 0 = 117 := rfl
theorem kd_117 : kd 117 = 12 := rfl
theorem ln_117 : ln 117 = 24 := rfl
theorem kd_118 : kd 118 = 2 := rfl
theorem rf_118_0 : rf 118 0 = 119 := rfl
theorem kd_119 : kd 119 = 12 := rfl
theorem ln_119 : ln 119 = 24 := rfl
theorem kd_120 : kd 120 = 7 := rfl
theorem rf_120_0 : rf 120 0 = 121 := rfl
theorem rf_120_1 : rf 120 1 = 122 := rfl
theorem rf_120_2 : rf 120 2 = 123 := rfl
theorem rf_120_3 : rf 120 3 = 124 := rfl
theorem rf_120_5 : rf 120 5 = 125 := rfl
theorem rf_120_7 : rf 120 7 = 126 := rfl
theorem rf_120_8 : rf 120 8 = 127 := rfl
theorem rf_120_9 : rf 120 9 = 128 := rfl
theorem kd_121 : kd 121 = 10 := rfl
theorem ln_121 : ln 121 = 223 := rfl
theorem ar_121 : AR 121 223 := ⟨kd_121, ln_121⟩
theorem kd_122 : kd 122 = 10 := rfl
theorem ln_122 : ln 122 = 223 := rfl
theorem ar_122 : AR 122 223 := ⟨kd_122, ln_122⟩
theorem kd_123 : kd 123 = 10 := rfl
theorem ln_123 : ln 123 = 223 := rfl
theorem ar_123 : AR 123 223 := ⟨kd_123, ln_123⟩
theorem kd_124 : kd 124 = 10 := rfl
theorem ln_124 : ln 124 = 223 := rfl
theorem ar_124 : AR 124 223 := ⟨kd_124, ln_124⟩
theorem kd_125 : kd 125 = 10 := rfl
theorem ln_125 : ln 125 = 60 := rfl
theorem ar_125 : AR 125 60 := ⟨kd_125, ln_125⟩
theorem kd_126 : kd 126 = 10 := rfl
theorem ln_126 : ln 126 = 4 := rfl
theorem ar_126 : AR 126 4 := ⟨kd_126, ln_126⟩
theorem kd_127 : kd 127 = 10 := rfl
theorem ln_127 : ln 127 = 4 := rfl
theorem ar_127 : AR 127 4 := ⟨kd_127, ln_127⟩
theorem kd_128 : kd 128 = 12 := rfl
theorem ln_128 : ln 128 = 96 := rfl
section WPA
variable {κ : KX} {r : RM} {y : MD} {pc n : Nat} {L : List (Option Value)} {st : List Value} {M : MM} {ct : Nat × Nat} {Q : Option Value → va_W → Prop}
theorem wp_ald {k N j : Nat} {x : Int32} (d : St y pc (.iaload) 1 n) (a : AR k N) (hx : x = nI j) (hj : j < N) (kk : WP κ r y n L (.int (M.1 k j) :: st) (wM κ M) ct Q) : WP κ r y pc L (.int x :: rv κ k :: st) (wM κ M) ct Q := wp_iald d a.1 hx (by rw [a.2]; exact hj) kk
theorem wp_ast {k N j : Nat} {x v : Int32} (d : St y pc (.iastore) 1 n) (a : AR k N) (hx : x = nI j) (hj : j < N) (kk : WP κ r y n L st (wM κ (sI M k j v)) ct Q) : WP κ r y pc L (.int v :: .int x :: rv κ k :: st) (wM κ M) ct Q := wp_iast d a.1 hx (by rw [a.2]; exact hj) kk
end WPA
