/-! the reference: words as lists -/
def eqW (B : Nat → Int32) : Nat → List Int32 → Bool
  | _, [] => true
  | f, x :: xs => decide (B f = x) && eqW B (f + 1) xs
def wI (m : Mem) (B : Nat → Int32) (f : Nat) (ws : List Int32) : Bool := decide (m 50 15 = 1) && (decide (m 50 17 - m 50 16 = nI ws.length) && eqW B f ws)
theorem w3_eq (m : Mem) (B : Nat → Int32) (f : Nat) (a b c : Int32) : bB (wI m B f [a, b, c]) = if wdI m 3 = 0 then 0 else if h3I B (f + 0) a b c = 0 then 0 else 1 := by
  have e1 : h3I B (f + 0) a b c = (if B f = a then (if B (f + 1) = b then (if B (f + 2) = c then 1 else 0) else 0) else 0) := rfl
  have e3 : wI m B f [a, b, c] = (decide (m 50 15 = 1) && (decide (m 50 17 - m 50 16 = 3) && (decide (B f = a) && (decide (B (f + 1) = b) && (decide (B (f + 2) = c) && true))))) := rfl
  rw [e1, e3, wdI]
  by_cases h1 : m 50 15 = 1 <;> by_cases h2 : m 50 17 - m 50 16 = 3 <;> by_cases h3 : B f = a <;> by_cases h4 : B (f + 1) = b <;> by_cases h5 : B (f + 2) = c <;> simp [bB, h1, h2, h3, h4, h5]
theorem w4_eq (m : Mem) (B : Nat → Int32) (f : Nat) (a b c d : Int32) : bB (wI m B f [a, b, c, d]) = if wdI m 4 = 0 then 0 else if h3I B (f + 0) a b c = 0 then 0 else if h3I B (f + 1) b c d = 0 then 0 else 1 := by
  have e1 : h3I B (f + 0) a b c = (if B f = a then (if B (f + 1) = b then (if B (f + 2) = c then 1 else 0) else 0) else 0) := rfl
  have e2 : h3I B (f + 1) b c d = (if B (f + 1) = b then (if B (f + 2) = c then (if B (f + 3) = d then 1 else 0) else 0) else 0) := rfl
  have e3 : wI m B f [a, b, c, d] = (decide (m 50 15 = 1) && (decide (m 50 17 - m 50 16 = 4) && (decide (B f = a) && (decide (B (f + 1) = b) && (decide (B (f + 2) = c) && (decide (B (f + 3) = d) && true)))))) := rfl
  rw [e1, e2, e3, wdI]
  by_cases h1 : m 50 15 = 1 <;> by_cases h2 : m 50 17 - m 50 16 = 4 <;> by_cases h3 : B f = a <;> by_cases h4 : B (f + 1) = b <;> by_cases h5 : B (f + 2) = c <;> by_cases h6 : B (f + 3) = d <;> simp [bB, h1, h2, h3, h4, h5, h6]
theorem w5_eq (m : Mem) (B : Nat → Int32) (f : Nat) (a b c d e : Int32) : bB (wI m B f [a, b, c, d, e]) = if wdI m 5 = 0 then 0 else if h3I B (f + 0) a b c = 0 then 0 else if h3I B (f + 2) c d e = 0 then 0 else 1 := by
  have e1 : h3I B (f + 0) a b c = (if B f = a then (if B (f + 1) = b then (if B (f + 2) = c then 1 else 0) else 0) else 0) := rfl
  have e2 : h3I B (f + 2) c d e = (if B (f + 2) = c then (if B (f + 3) = d then (if B (f + 4) = e then 1 else 0) else 0) else 0) := rfl
  have e3 : wI m B f [a, b, c, d, e] = (decide (m 50 15 = 1) && (decide (m 50 17 - m 50 16 = 5) && (decide (B f = a) && (decide (B (f + 1) = b) && (decide (B (f + 2) = c) && (decide (B (f + 3) = d) && (decide (B (f + 4) = e) && true))))))) := rfl
  rw [e1, e2, e3, wdI]
  by_cases h1 : m 50 15 = 1 <;> by_cases h2 : m 50 17 - m 50 16 = 5 <;> by_cases h3 : B f = a <;> by_cases h4 : B (f + 1) = b <;> by_cases h5 : B (f + 2) = c <;> by_cases h6 : B (f + 3) = d <;> by_cases h7 : B (f + 4) = e <;> simp [bB, h1, h2, h3, h4, h5, h6, h7]
theorem w6_eq (m : Mem) (B : Nat → Int32) (f : Nat) (a b c d e g : Int32) : bB (wI m B f [a, b, c, d, e, g]) = if wdI m 6 = 0 then 0 else if h3I B (f + 0) a b c = 0 then 0 else if h3I B (f + 3) d e g = 0 then 0 else 1 := by
  have e1 : h3I B (f + 0) a b c = (if B f = a then (if B (f + 1) = b then (if B (f + 2) = c then 1 else 0) else 0) else 0) := rfl
  have e2 : h3I B (f + 3) d e g = (if B (f + 3) = d then (if B (f + 4) = e then (if B (f + 5) = g then 1 else 0) else 0) else 0) := rfl
  have e3 : wI m B f [a, b, c, d, e, g] = (decide (m 50 15 = 1) && (decide (m 50 17 - m 50 16 = 6) && (decide (B f = a) && (decide (B (f + 1) = b) && (decide (B (f + 2) = c) && (decide (B (f + 3) = d) && (decide (B (f + 4) = e) && (decide (B (f + 5) = g) && true)))))))) := rfl
  rw [e1, e2, e3, wdI]
  by_cases h1 : m 50 15 = 1 <;> by_cases h2 : m 50 17 - m 50 16 = 6 <;> by_cases h3 : B f = a <;> by_cases h4 : B (f + 1) = b <;> by_cases h5 : B (f + 2) = c <;> by_cases h6 : B (f + 3) = d <;> by_cases h7 : B (f + 4) = e <;> by_cases h8 : B (f + 5) = g <;> simp [bB, h1, h2, h3, h4, h5, h6, h7, h8]
theorem w7_eq (m : Mem) (B : Nat → Int32) (f : Nat) (a b c d e g i : Int32) : bB (wI m B f [a, b, c, d, e, g, i]) = if wdI m 7 = 0 then 0 else if h3I B (f + 0) a b c = 0 then 0 else if h3I B (f + 3) d e g = 0 then 0 else if h3I B (f + 4) e g i = 0 then 0 else 1 := by
  have e1 : h3I B (f + 0) a b c = (if B f = a then (if B (f + 1) = b then (if B (f + 2) = c then 1 else 0) else 0) else 0) := rfl
  have e2 : h3I B (f + 3) d e g = (if B (f + 3) = d then (if B (f + 4) = e then (if B (f + 5) = g then 1 else 0) else 0) else 0) := rfl
  have e4 : h3I B (f + 4) e g i = (if B (f + 4) = e then (if B (f + 5) = g then (if B (f + 6) = i then 1 else 0) else 0) else 0) := rfl
  have e3 : wI m B f [a, b, c, d, e, g, i] = (decide (m 50 15 = 1) && (decide (m 50 17 - m 50 16 = 7) && (decide (B f = a) && (decide (B (f + 1) = b) && (decide (B (f + 2) = c) && (decide (B (f + 3) = d) && (decide (B (f + 4) = e) && (decide (B (f + 5) = g) && (decide (B (f + 6) = i) && true))))))))) := rfl
  rw [e1, e2, e3, e4, wdI]
  by_cases h1 : m 50 15 = 1
  · by_cases h2 : m 50 17 - m 50 16 = 7
    · by_cases h3 : B f = a <;> by_cases h4 : B (f + 1) = b <;> by_cases h5 : B (f + 2) = c <;> by_cases h6 : B (f + 3) = d <;> by_cases h7 : B (f + 4) = e <;> by_cases h8 : B (f + 5) = g <;> by_cases h9 : B (f + 6) = i <;> simp [bB, h1, h2, h3, h4, h5, h6, h7, h8, h9]
    · simp [bB, h2]
  · simp [bB, h1]
set_option maxHeartbeats 4000000 in
theorem c6_isFour {T f : Nat} {mem : Mem} (hT : mem 50 7 = nI T) (hT2 : T ≤ 120) (hf : mem 50 16 = nI f) (hf2 : f ≤ 120) (a b c d : Int32) : CnE mX6_isFour [.ref 50, .int a, .int b, .int c, .int d] mem (some (.int (bB (wI mem (BT mem T) f [a, b, c, d])))) mem := by
  refine Cn.of (ls := [some (.ref 50), some (.int a), some (.int b), some (.int c), some (.int d)]) (by decide) rfl (Nat.le_of_ble_eq_true rfl) ?_
  refine w_aload_n (i := 0) (n' := 1) dX6_isFour_0 rfl rfl rfl ?_
  refine w_iconst (v := 4) (n' := 2) dX6_isFour_1 rfl rfl ?_
  refine v_E (ci := 6) (n' := 5) dX6_isFour_2 rfl lRX6_241 okX6_isWord voX6_isWord ⟨⟨Nat.le_of_ble_eq_true rfl, Nat.le_of_ble_eq_true rfl⟩, Nat.le_of_ble_eq_true rfl, Nat.le_of_ble_eq_true rfl⟩ (c6_isWord _ _) rfl rfl (Nat.le_of_ble_eq_true rfl) rfl (Nat.le_of_ble_eq_true rfl) rfl ?_
  refine w_if_eq (n' := 8) (tgt := 35) dX6_isFour_5 rfl rfl (fun h5 => ?_) (fun h5 => ?_)
  · refine w_iconst (v := 0) (n' := 36) dX6_isFour_35 rfl rfl ?_
    exact w_zret dX6_isFour_36 rfl rfl ⟨by rw [w4_eq, if_pos h5], rfl⟩
  · refine w_aload_n (i := 0) (n' := 9) dX6_isFour_8 rfl rfl rfl ?_
    refine w_iconst (v := 0) (n' := 10) dX6_isFour_9 rfl rfl ?_
    refine w_iload_n (i := 1) (n' := 11) dX6_isFour_10 rfl rfl rfl ?_
    refine w_iload_n (i := 2) (n' := 12) dX6_isFour_11 rfl rfl rfl ?_
    refine w_iload_n (i := 3) (n' := 13) dX6_isFour_12 rfl rfl rfl ?_
    refine v_E (ci := 6) (n' := 16) dX6_isFour_13 rfl lRX6_244 okX6_has3 voX6_has3 ⟨⟨Nat.le_of_ble_eq_true rfl, Nat.le_of_ble_eq_true rfl⟩, Nat.le_of_ble_eq_true rfl, Nat.le_of_ble_eq_true rfl⟩ (c6_has3 (d := 0) hT hT2 hf hf2 (by decide) _ _ _ _ rfl) rfl rfl (Nat.le_of_ble_eq_true rfl) rfl (Nat.le_of_ble_eq_true rfl) rfl ?_
    refine w_if_eq (n' := 19) (tgt := 35) dX6_isFour_16 rfl rfl (fun h16 => ?_) (fun h16 => ?_)
    · refine w_iconst (v := 0) (n' := 36) dX6_isFour_35 rfl rfl ?_
      exact w_zret dX6_isFour_36 rfl rfl ⟨by rw [w4_eq, if_neg h5, if_pos h16], rfl⟩
    · refine w_aload_n (i := 0) (n' := 20) dX6_isFour_19 rfl rfl rfl ?_
      refine w_iconst (v := 1) (n' := 21) dX6_isFour_20 rfl rfl ?_
      refine w_iload_n (i := 2) (n' := 22) dX6_isFour_21 rfl rfl rfl ?_
      refine w_iload_n (i := 3) (n' := 23) dX6_isFour_22 rfl rfl rfl ?_
      refine w_iload (n' := 25) dX6_isFour_23 rfl rfl ?_
      refine v_E (ci := 6) (n' := 28) dX6_isFour_25 rfl lRX6_244 okX6_has3 voX6_has3 ⟨⟨Nat.le_of_ble_eq_true rfl, Nat.le_of_ble_eq_true rfl⟩, Nat.le_of_ble_eq_true rfl, Nat.le_of_ble_eq_true rfl⟩ (c6_has3 (d := 1) hT hT2 hf hf2 (by decide) _ _ _ _ rfl) rfl rfl (Nat.le_of_ble_eq_true rfl) rfl (Nat.le_of_ble_eq_true rfl) rfl ?_
      refine w_if_eq (n' := 31) (tgt := 35) dX6_isFour_28 rfl rfl (fun h28 => ?_) (fun h28 => ?_)
      · refine w_iconst (v := 0) (n' := 36) dX6_isFour_35 rfl rfl ?_
        exact w_zret dX6_isFour_36 rfl rfl ⟨by rw [w4_eq, if_neg h5, if_neg h16, if_pos h28], rfl⟩
      · refine w_iconst (v := 1) (n' := 32) dX6_isFour_31 rfl rfl ?_
        refine w_goto (tgt := 36) dX6_isFour_32 rfl ?_
        exact w_zret dX6_isFour_36 rfl rfl ⟨by rw [w4_eq, if_neg h5, if_neg h16, if_neg h28], rfl⟩
set_option maxHeartbeats 4000000 in
theorem c6_isFive {T f : Nat} {mem : Mem} (hT : mem 50 7 = nI T) (hT2 : T ≤ 120) (hf : mem 50 16 = nI f) (hf2 : f ≤ 120) (a b c d e : Int32) : CnE mX6_isFive [.ref 50, .int a, .int b, .int c, .int d, .int e] mem (some (.int (bB (wI mem (BT mem T) f [a, b, c, d, e])))) mem := by
  refine Cn.of (ls := [some (.ref 50), some (.int a), some (.int b), some (.int c), some (.int d), some (.int e)]) (by decide) rfl (Nat.le_of_ble_eq_true rfl) ?_
  refine w_aload_n (i := 0) (n' := 1) dX6_isFive_0 rfl rfl rfl ?_
  refine w_iconst (v := 5) (n' := 2) dX6_isFive_1 rfl rfl ?_
  refine v_E (ci := 6) (n' := 5) dX6_isFive_2 rfl lRX6_241 okX6_isWord voX6_isWord ⟨⟨Nat.le_of_ble_eq_true rfl, Nat.le_of_ble_eq_true rfl⟩, Nat.le_of_ble_eq_true rfl, Nat.le_of_ble_eq_true rfl⟩ (c6_isWord _ _) rfl rfl (Nat.le_of_ble_eq_true rfl) rfl (Nat.le_of_ble_eq_true rfl) rfl ?_
  refine w_if_eq (n' := 8) (tgt := 36) dX6_isFive_5 rfl rfl (fun h5 => ?_) (fun h5 => ?_)
  · refine w_iconst (v := 0) (n' := 37) dX6_isFive_36 rfl rfl ?_
    exact w_zret dX6_isFive_37 rfl rfl ⟨by rw [w5_eq, if_pos h5], rfl⟩
  · refine w_aload_n (i := 0) (n' := 9) dX6_isFive_8 rfl rfl rfl ?_
    refine w_iconst (v := 0) (n' := 10) dX6_isFive_9 rfl rfl ?_
    refine w_iload_n (i := 1) (n' := 11) dX6_isFive_10 rfl rfl rfl ?_
    refine w_iload_n (i := 2) (n' := 12) dX6_isFive_11 rfl rfl rfl ?_
    refine w_iload_n (i := 3) (n' := 13) dX6_isFive_12 rfl rfl rfl ?_
    refine v_E (ci := 6) (n' := 16) dX6_isFive_13 rfl lRX6_244 okX6_has3 voX6_has3 ⟨⟨Nat.le_of_ble_eq_true rfl, Nat.le_of_ble_eq_true rfl⟩, Nat.le_of_ble_eq_true rfl, Nat.le_of_ble_eq_true rfl⟩ (c6_has3 (d := 0) hT hT2 hf hf2 (by decide) _ _ _ _ rfl) rfl rfl (Nat.le_of_ble_eq_true rfl) rfl (Nat.le_of_ble_eq_true rfl) rfl ?_
    refine w_if_eq (n' := 19) (tgt := 36) dX6_isFive_16 rfl rfl (fun h16 => ?_) (fun h16 => ?_)
    · refine w_iconst (v := 0) (n' := 37) dX6_isFive_36 rfl rfl ?_
      exact w_zret dX6_isFive_37 rfl rfl ⟨by rw [w5_eq, if_neg h5, if_pos h16], rfl⟩
    · refine w_aload_n (i := 0) (n' := 20) dX6_isFive_19 rfl rfl rfl ?_
      refine w_iconst (v := 2) (n' := 21) dX6_isFive_20 rfl rfl ?_
      refine w_iload_n (i := 3) (n' := 22) dX6_isFive_21 rfl rfl rfl ?_
      refine w_iload (n' := 24) dX6_isFive_22 rfl rfl ?_
      refine w_iload (n' := 26) dX6_isFive_24 rfl rfl ?_
      refine v_E (ci := 6) (n' := 29) dX6_isFive_26 rfl lRX6_244 okX6_has3 voX6_has3 ⟨⟨Nat.le_of_ble_eq_true rfl, Nat.le_of_ble_eq_true rfl⟩, Nat.le_of_ble_eq_true rfl, Nat.le_of_ble_eq_true rfl⟩ (c6_has3 (d := 2) hT hT2 hf hf2 (by decide) _ _ _ _ rfl) rfl rfl (Nat.le_of_ble_eq_true rfl) rfl (Nat.le_of_ble_eq_true rfl) rfl ?_
      refine w_if_eq (n' := 32) (tgt := 36) dX6_isFive_29 rfl rfl (fun h29 => ?_) (fun h29 => ?_)
      · refine w_iconst (v := 0) (n' := 37) dX6_isFive_36 rfl rfl ?_
        exact w_zret dX6_isFive_37 rfl rfl ⟨by rw [w5_eq, if_neg h5, if_neg h16, if_pos h29], rfl⟩
      · refine w_iconst (v := 1) (n' := 33) dX6_isFive_32 rfl rfl ?_
        refine w_goto (tgt := 37) dX6_isFive_33 rfl ?_
        exact w_zret dX6_isFive_37 rfl rfl ⟨by rw [w5_eq, if_neg h5, if_neg h16, if_neg h29], rfl⟩
set_option maxHeartbeats 4000000 in
theorem c6_isSix {T f : Nat} {mem : Mem} (hT : mem 50 7 = nI T) (hT2 : T ≤ 120) (hf : mem 50 16 = nI f) (hf2 : f ≤ 120) (a b c d e g : Int32) : CnE mX6_isSix [.ref 50, .int a, .int b, .int c, .int d, .int e, .int g] mem (some (.int (bB (wI mem (BT mem T) f [a, b, c, d, e, g])))) mem := by
  refine Cn.of (ls := [some (.ref 50), some (.int a), some (.int b), some (.int c), some (.int d), some (.int e), some (.int g)]) (by decide) rfl (Nat.le_of_ble_eq_true rfl) ?_
  refine w_aload_n (i := 0) (n' := 1) dX6_isSix_0 rfl rfl rfl ?_
  refine w_bipush (v := 6) (n' := 3) dX6_isSix_1 rfl (by decide) ?_
  refine v_E (ci := 6) (n' := 6) dX6_isSix_3 rfl lRX6_241 okX6_isWord voX6_isWord ⟨⟨Nat.le_of_ble_eq_true rfl, Nat.le_of_ble_eq_true rfl⟩, Nat.le_of_ble_eq_true rfl, Nat.le_of_ble_eq_true rfl⟩ (c6_isWord _ _) rfl rfl (Nat.le_of_ble_eq_true rfl) rfl (Nat.le_of_ble_eq_true rfl) rfl ?_
  refine w_if_eq (n' := 9) (tgt := 38) dX6_isSix_6 rfl rfl (fun h6 => ?_) (fun h6 => ?_)
  · refine w_iconst (v := 0) (n' := 39) dX6_isSix_38 rfl rfl ?_
    exact w_zret dX6_isSix_39 rfl rfl ⟨by rw [w6_eq, if_pos h6], rfl⟩
  · refine w_aload_n (i := 0) (n' := 10) dX6_isSix_9 rfl rfl rfl ?_
    refine w_iconst (v := 0) (n' := 11) dX6_isSix_10 rfl rfl ?_
    refine w_iload_n (i := 1) (n' := 12) dX6_isSix_11 rfl rfl rfl ?_
    refine w_iload_n (i := 2) (n' := 13) dX6_isSix_12 rfl rfl rfl ?_
    refine w_iload_n (i := 3) (n' := 14) dX6_isSix_13 rfl rfl rfl ?_
    refine v_E (ci := 6) (n' := 17) dX6_isSix_14 rfl lRX6_244 okX6_has3 voX6_has3 ⟨⟨Nat.le_of_ble_eq_true rfl, Nat.le_of_ble_eq_true rfl⟩, Nat.le_of_ble_eq_true rfl, Nat.le_of_ble_eq_true rfl⟩ (c6_has3 (d := 0) hT hT2 hf hf2 (by decide) _ _ _ _ rfl) rfl rfl (Nat.le_of_ble_eq_true rfl) rfl (Nat.le_of_ble_eq_true rfl) rfl ?_
    refine w_if_eq (n' := 20) (tgt := 38) dX6_isSix_17 rfl rfl (fun h17 => ?_) (fun h17 => ?_)
    · refine w_iconst (v := 0) (n' := 39) dX6_isSix_38 rfl rfl ?_
      exact w_zret dX6_isSix_39 rfl rfl ⟨by rw [w6_eq, if_neg h6, if_pos h17], rfl⟩
    · refine w_aload_n (i := 0) (n' := 21) dX6_isSix_20 rfl rfl rfl ?_
      refine w_iconst (v := 3) (n' := 22) dX6_isSix_21 rfl rfl ?_
      refine w_iload (n' := 24) dX6_isSix_22 rfl rfl ?_
      refine w_iload (n' := 26) dX6_isSix_24 rfl rfl ?_
      refine w_iload (n' := 28) dX6_isSix_26 rfl rfl ?_
      refine v_E (ci := 6) (n' := 31) dX6_isSix_28 rfl lRX6_244 okX6_has3 voX6_has3 ⟨⟨Nat.le_of_ble_eq_true rfl, Nat.le_of_ble_eq_true rfl⟩, Nat.le_of_ble_eq_true rfl, Nat.le_of_ble_eq_true rfl⟩ (c6_has3 (d := 3) hT hT2 hf hf2 (by decide) _ _ _ _ rfl) rfl rfl (Nat.le_of_ble_eq_true rfl) rfl (Nat.le_of_ble_eq_true rfl) rfl ?_
      refine w_if_eq (n' := 34) (tgt := 38) dX6_isSix_31 rfl rfl (fun h31 => ?_) (fun h31 => ?_)
      · refine w_iconst (v := 0) (n' := 39) dX6_isSix_38 rfl rfl ?_
        exact w_zret dX6_isSix_39 rfl rfl ⟨by rw [w6_eq, if_neg h6, if_neg h17, if_pos h31], rfl⟩
      · refine w_iconst (v := 1) (n' := 35) dX6_isSix_34 rfl rfl ?_
        refine w_goto (tgt := 39) dX6_isSix_35 rfl ?_
        exact w_zret dX6_isSix_39 rfl rfl ⟨by rw [w6_eq, if_neg h6, if_neg h17, if_neg h31], rfl⟩
