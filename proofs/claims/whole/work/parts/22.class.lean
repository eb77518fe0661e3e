/-! the class: its small ones, and calls that look at the parish as it is -/
def fnd (m : Mem) (w : Nat) : Mem := up2 m 49 w (m 49 w + 1)
theorem mayI_0 (v : Int32) : mayI 0 v = inR v 0 6 := by
  unfold mayI
  rw [if_neg (by decide)]
  rfl
theorem mayI_1 (v : Int32) : mayI 1 v = inR v 0 999 := by
  unfold mayI
  rw [if_neg (by decide)]
  rfl
theorem mayI_2 (v : Int32) : mayI 2 v = inR v 1 20 := by
  unfold mayI
  rw [if_neg (by decide)]
  rfl
theorem mayI_3 (v : Int32) : mayI 3 v = inR v (-9) 9 := by
  unfold mayI
  rw [if_neg (by decide)]
  rfl
theorem mayI_4 (v : Int32) : mayI 4 v = inR v 0 9999 := by
  unfold mayI
  rw [if_neg (by decide)]
  rfl
theorem c_may0 (v : Int32) (mem : Mem) : CnE mX0_mayBe [.int 0, .int v] mem (some (.int (inR v 0 6))) mem := by rw [← mayI_0]; exact c_mayBe 0 v mem
theorem c_may1 (v : Int32) (mem : Mem) : CnE mX0_mayBe [.int 1, .int v] mem (some (.int (inR v 0 999))) mem := by rw [← mayI_1]; exact c_mayBe 1 v mem
theorem c_may3 (v : Int32) (mem : Mem) : CnE mX0_mayBe [.int 3, .int v] mem (some (.int (inR v (-9) 9))) mem := by rw [← mayI_3]; exact c_mayBe 3 v mem
theorem nI_m1 {n : Nat} (h : 0 < n) : nI n - 1 = nI (n - 1) := by
  obtain ⟨k, rfl⟩ : ∃ k, n = k + 1 := ⟨n - 1, by omega⟩
  rw [nI_pred]
  rfl
theorem hasF_of {n : Nat} {f : Int32} (hn : n ≤ 1000) (h : ¬ inR f 0 (nI n - 1) = 0) : ∃ i, i < n ∧ f = nI i := by
  rcases Nat.eq_zero_or_pos n with h0 | h0
  · subst h0
    exfalso
    apply h
    unfold inR
    by_cases h1 : f < 0
    · rw [if_pos h1]
    · rw [if_neg h1]
      have h2 : nI 0 - 1 < f := by
        rw [Int32.lt_iff_toInt_lt]
        have : ¬ f.toInt < (0 : Int32).toInt := fun q => h1 (Int32.lt_iff_toInt_lt.mpr q)
        have e : (nI 0 - 1).toInt = -1 := by decide
        have e0 : (0 : Int32).toInt = 0 := by decide
        omega
      rw [if_pos h2]
  · rw [nI_m1 h0] at h
    obtain ⟨i, h1, h2⟩ := inR_of (N := n - 1) (nI_toInt (by omega)) h
    exact ⟨i, by omega, h2⟩
theorem hasF_in {n i : Nat} (hn : n ≤ 1000) (h : i < n) : inR (nI i) 0 (nI n - 1) = 1 := by
  rw [inR_iff, nI_m1 (by omega), nI_toInt (by omega), nI_toInt (by omega)]
  have : (0 : Int32).toInt = 0 := by decide
  omega
set_option maxHeartbeats 4000000 in
theorem c_finding (w : Nat) (v : Int32) (hv : v = nI w) (hw : w < 7) (mem : Mem) : CnE mX5_finding [.ref 0, .int v] mem (some (.int (-1000001 - v))) (fnd mem w) := by
  refine Cn.of (ls := [some (.ref 0), some (.int v)]) (by decide) rfl (Nat.le_of_ble_eq_true rfl) ?_
  refine w_iload_n (i := 1) (n' := 1) dX5_finding_0 rfl rfl rfl ?_
  refine w_iconst (v := 0) (n' := 2) dX5_finding_1 rfl rfl ?_
  refine w_bipush (v := 6) (n' := 4) dX5_finding_2 rfl (by decide) ?_
  refine s_E (n' := 7) dX5_finding_4 rfl lRX5_53 okX5_within stX5_within ⟨⟨Nat.le_of_ble_eq_true rfl, Nat.le_of_ble_eq_true rfl⟩, Nat.le_of_ble_eq_true rfl, Nat.le_of_ble_eq_true rfl⟩ (c_within _ _ _ _) rfl rfl (Nat.le_of_ble_eq_true rfl) ?_
  refine w_if_eq (n' := 10) (tgt := 20) dX5_finding_7 rfl rfl (fun h7 => ?_) (fun h7 => ?_)
  · exfalso
    revert h7
    have e : inR v 0 6 = 1 := by
      rw [inR_iff, hv, nI_toInt (by omega)]
      have e0 : (0 : Int32).toInt = 0 := by decide
      have e6 : (6 : Int32).toInt = 6 := by decide
      omega
    rw [e]
    decide
  · refine w_aload_n (i := 0) (n' := 11) dX5_finding_10 rfl rfl rfl ?_
    refine w_get (ci := 5) (j := 6) (n' := 14) dX5_finding_11 rfl fRX5_45 (Nat.le_of_ble_eq_true rfl) (Nat.le_of_ble_eq_true rfl) rfl rfl ?_
    refine w_iload_n (i := 1) (n' := 15) dX5_finding_14 rfl rfl rfl ?_
    refine w_dup2 (n' := 16) dX5_finding_15 rfl rfl rfl ?_
    refine w_iald (n := w) (n' := 17) dX5_finding_16 rfl rfl hv (show w < 7 from hw) ?_
    refine w_iconst (v := 1) (n' := 18) dX5_finding_17 rfl rfl ?_
    refine w_iadd (n' := 19) dX5_finding_18 rfl ?_
    refine w_iast (n := w) (n' := 20) dX5_finding_19 rfl rfl hv (show w < 7 from hw) ?_
    refine w_ldcw (v := -1000001) (n' := 23) dX5_finding_20 rfl kRX5_276 ?_
    refine w_iload_n (i := 1) (n' := 24) dX5_finding_23 rfl rfl rfl ?_
    refine w_isub (n' := 25) dX5_finding_24 rfl ?_
    exact w_iret dX5_finding_25 rfl ⟨rfl, rfl⟩
set_option maxHeartbeats 4000000 in
theorem c_isQuestion (q : Int32) (mem : Mem) : CnE mX5_isQuestion [.int q] mem (some (.int (inR q (-99) 99))) mem := by
  refine Cn.of (ls := [some (.int q)]) (by decide) rfl (Nat.le_of_ble_eq_true rfl) ?_
  refine w_iload_n (i := 0) (n' := 1) dX5_isQuestion_0 rfl rfl rfl ?_
  refine w_bipush (v := -99) (n' := 3) dX5_isQuestion_1 rfl (by decide) ?_
  refine w_bipush (v := 99) (n' := 5) dX5_isQuestion_3 rfl (by decide) ?_
  refine s_E (n' := 8) dX5_isQuestion_5 rfl lRX5_53 okX5_within stX5_within ⟨⟨Nat.le_of_ble_eq_true rfl, Nat.le_of_ble_eq_true rfl⟩, Nat.le_of_ble_eq_true rfl, Nat.le_of_ble_eq_true rfl⟩ (c_within _ _ _ _) rfl rfl (Nat.le_of_ble_eq_true rfl) ?_
  exact w_zret dX5_isQuestion_8 rfl (inR_nar _ _ _) ⟨rfl, rfl⟩
set_option maxHeartbeats 4000000 in
theorem c_isAhead (q : Int32) (mem : Mem) : CnE mX5_isAhead [.int q] mem (some (.int (inR q 0 60))) mem := by
  refine Cn.of (ls := [some (.int q)]) (by decide) rfl (Nat.le_of_ble_eq_true rfl) ?_
  refine w_iload_n (i := 0) (n' := 1) dX5_isAhead_0 rfl rfl rfl ?_
  refine w_iconst (v := 0) (n' := 2) dX5_isAhead_1 rfl rfl ?_
  refine w_bipush (v := 60) (n' := 4) dX5_isAhead_2 rfl (by decide) ?_
  refine s_E (n' := 7) dX5_isAhead_4 rfl lRX5_53 okX5_within stX5_within ⟨⟨Nat.le_of_ble_eq_true rfl, Nat.le_of_ble_eq_true rfl⟩, Nat.le_of_ble_eq_true rfl, Nat.le_of_ble_eq_true rfl⟩ (c_within _ _ _ _) rfl rfl (Nat.le_of_ble_eq_true rfl) ?_
  exact w_zret dX5_isAhead_7 rfl (inR_nar _ _ _) ⟨rfl, rfl⟩
set_option maxHeartbeats 4000000 in
theorem c_isCutting (a b : Int32) (mem : Mem) : CnE mX5_isCutting [.int a, .int b] mem (some (.int (if inR a 1 200 = 0 then 0 else if inR b 1 20 = 0 then 0 else 1))) mem := by
  refine Cn.of (ls := [some (.int a), some (.int b)]) (by decide) rfl (Nat.le_of_ble_eq_true rfl) ?_
  refine w_iload_n (i := 0) (n' := 1) dX5_isCutting_0 rfl rfl rfl ?_
  refine w_iconst (v := 1) (n' := 2) dX5_isCutting_1 rfl rfl ?_
  refine w_sipush (v := 200) (n' := 5) dX5_isCutting_2 rfl (by decide) ?_
  refine s_E (n' := 8) dX5_isCutting_5 rfl lRX5_53 okX5_within stX5_within ⟨⟨Nat.le_of_ble_eq_true rfl, Nat.le_of_ble_eq_true rfl⟩, Nat.le_of_ble_eq_true rfl, Nat.le_of_ble_eq_true rfl⟩ (c_within _ _ _ _) rfl rfl (Nat.le_of_ble_eq_true rfl) ?_
  refine w_if_eq (n' := 11) (tgt := 25) dX5_isCutting_8 rfl rfl (fun h8 => ?_) (fun h8 => ?_)
  · refine w_iconst (v := 0) (n' := 26) dX5_isCutting_25 rfl rfl ?_
    exact w_zret dX5_isCutting_26 rfl rfl ⟨by simp [*], rfl⟩
  · refine w_iload_n (i := 1) (n' := 12) dX5_isCutting_11 rfl rfl rfl ?_
    refine w_iconst (v := 1) (n' := 13) dX5_isCutting_12 rfl rfl ?_
    refine w_bipush (v := 20) (n' := 15) dX5_isCutting_13 rfl (by decide) ?_
    refine s_E (n' := 18) dX5_isCutting_15 rfl lRX5_53 okX5_within stX5_within ⟨⟨Nat.le_of_ble_eq_true rfl, Nat.le_of_ble_eq_true rfl⟩, Nat.le_of_ble_eq_true rfl, Nat.le_of_ble_eq_true rfl⟩ (c_within _ _ _ _) rfl rfl (Nat.le_of_ble_eq_true rfl) ?_
    refine w_if_eq (n' := 21) (tgt := 25) dX5_isCutting_18 rfl rfl (fun h18 => ?_) (fun h18 => ?_)
    · refine w_iconst (v := 0) (n' := 26) dX5_isCutting_25 rfl rfl ?_
      exact w_zret dX5_isCutting_26 rfl rfl ⟨by simp [*], rfl⟩
    · refine w_iconst (v := 1) (n' := 22) dX5_isCutting_21 rfl rfl ?_
      refine w_goto (tgt := 26) dX5_isCutting_22 rfl ?_
      exact w_zret dX5_isCutting_26 rfl rfl ⟨by simp [*], rfl⟩
set_option maxHeartbeats 4000000 in
theorem c_winningCut (a b : Int32) (hb : ¬ maxI 1 b + 1 = 0) (mem : Mem) : CnE mX5_winningCut [.int a, .int b] mem (some (.int (a - 1 - (a - 1) / (maxI 1 b + 1) * (maxI 1 b + 1)))) mem := by
  refine Cn.of (ls := [some (.int a), some (.int b)]) (by decide) rfl (Nat.le_of_ble_eq_true rfl) ?_
  refine w_iload_n (i := 0) (n' := 1) dX5_winningCut_0 rfl rfl rfl ?_
  refine w_iconst (v := 1) (n' := 2) dX5_winningCut_1 rfl rfl ?_
  refine w_isub (n' := 3) dX5_winningCut_2 rfl ?_
  refine w_iconst (v := 1) (n' := 4) dX5_winningCut_3 rfl rfl ?_
  refine w_iload_n (i := 1) (n' := 5) dX5_winningCut_4 rfl rfl rfl ?_
  refine w_max (n' := 8) dX5_winningCut_5 rfl lRX5_201 ⟨Nat.le_of_ble_eq_true rfl, Nat.le_of_ble_eq_true rfl, Nat.le_of_ble_eq_true rfl, Nat.le_of_ble_eq_true rfl⟩ ?_
  refine w_iconst (v := 1) (n' := 9) dX5_winningCut_8 rfl rfl ?_
  refine w_iadd (n' := 10) dX5_winningCut_9 rfl ?_
  refine w_irem (n' := 11) dX5_winningCut_10 rfl hb ?_
  exact w_iret dX5_winningCut_11 rfl ⟨rfl, rfl⟩
set_option maxHeartbeats 4000000 in
theorem c5_weather (a v : Int32) (mem : Mem) : CnI mX5_weather [.ref 0, .int a, .int v] mem (fun x m' => ((inR a 0 2 = 0 ∨ inR v 0 99 = 0) ∧ x = -1000001 ∧ m' = fnd mem 0) ∨ (¬ inR a 0 2 = 0 ∧ ¬ inR v 0 99 = 0 ∧ ∃ n, n ≤ 2 ∧ a = nI n ∧ x = mem 2 n ∧ m' = up2 mem 2 n v)) := by
  refine Cn.of (ls := [some (.ref 0), some (.int a), some (.int v), none]) (by decide) rfl (Nat.le_of_ble_eq_true rfl) ?_
  refine w_iload_n (i := 1) (n' := 1) dX5_weather_0 rfl rfl rfl ?_
  refine w_iconst (v := 0) (n' := 2) dX5_weather_1 rfl rfl ?_
  refine w_iconst (v := 2) (n' := 3) dX5_weather_2 rfl rfl ?_
  refine s_E (n' := 6) dX5_weather_3 rfl lRX5_53 okX5_within stX5_within ⟨⟨Nat.le_of_ble_eq_true rfl, Nat.le_of_ble_eq_true rfl⟩, Nat.le_of_ble_eq_true rfl, Nat.le_of_ble_eq_true rfl⟩ (c_within _ _ _ _) rfl rfl (Nat.le_of_ble_eq_true rfl) ?_
  refine w_if_eq (n' := 9) (tgt := 19) dX5_weather_6 rfl rfl (fun h6 => ?_) (fun h6 => ?_)
  · refine w_aload_n (i := 0) (n' := 20) dX5_weather_19 rfl rfl rfl ?_
    refine w_iconst (v := 0) (n' := 21) dX5_weather_20 rfl rfl ?_
    refine v_E (ci := 5) (n' := 24) dX5_weather_21 rfl lRX5_57 okX5_finding voX5_finding ⟨⟨Nat.le_of_ble_eq_true rfl, Nat.le_of_ble_eq_true rfl⟩, Nat.le_of_ble_eq_true rfl, Nat.le_of_ble_eq_true rfl⟩ (c_finding 0 _ (by decide) (by decide) _) rfl rfl (Nat.le_of_ble_eq_true rfl) rfl (Nat.le_of_ble_eq_true rfl) rfl ?_
    exact w_iret dX5_weather_24 rfl ⟨_, rfl, Or.inl ⟨Or.inl h6, rfl, rfl⟩⟩
  · refine w_iload_n (i := 2) (n' := 10) dX5_weather_9 rfl rfl rfl ?_
    refine w_iconst (v := 0) (n' := 11) dX5_weather_10 rfl rfl ?_
    refine w_bipush (v := 99) (n' := 13) dX5_weather_11 rfl (by decide) ?_
    refine s_E (n' := 16) dX5_weather_13 rfl lRX5_53 okX5_within stX5_within ⟨⟨Nat.le_of_ble_eq_true rfl, Nat.le_of_ble_eq_true rfl⟩, Nat.le_of_ble_eq_true rfl, Nat.le_of_ble_eq_true rfl⟩ (c_within _ _ _ _) rfl rfl (Nat.le_of_ble_eq_true rfl) ?_
    refine w_if_ne (n' := 19) (tgt := 25) dX5_weather_16 rfl rfl (fun h16 => ?_) (fun h16 => ?_)
    · obtain ⟨n, hn, hw⟩ := inR_of (N := 2) (by decide) h6
      refine w_aload_n (i := 0) (n' := 26) dX5_weather_25 rfl rfl rfl ?_
      refine w_get (ci := 5) (j := 0) (n' := 29) dX5_weather_26 rfl fRX5_10 (Nat.le_of_ble_eq_true rfl) (Nat.le_of_ble_eq_true rfl) rfl rfl ?_
      refine w_get (ci := 1) (j := 0) (n' := 32) dX5_weather_29 rfl fRX5_61 (Nat.le_of_ble_eq_true rfl) (Nat.le_of_ble_eq_true rfl) rfl rfl ?_
      refine w_iload_n (i := 1) (n' := 33) dX5_weather_32 rfl rfl rfl ?_
      refine w_iald (n := n) (n' := 34) dX5_weather_33 rfl rfl hw (show n < 3 by omega) ?_
      refine w_istore_n (i := 3) (n' := 35) (ls' := [_, _, _, _]) dX5_weather_34 rfl rfl (Nat.le_of_ble_eq_true rfl) rfl rfl ?_
      refine w_aload_n (i := 0) (n' := 36) dX5_weather_35 rfl rfl rfl ?_
      refine w_get (ci := 5) (j := 0) (n' := 39) dX5_weather_36 rfl fRX5_10 (Nat.le_of_ble_eq_true rfl) (Nat.le_of_ble_eq_true rfl) rfl rfl ?_
      refine w_get (ci := 1) (j := 0) (n' := 42) dX5_weather_39 rfl fRX5_61 (Nat.le_of_ble_eq_true rfl) (Nat.le_of_ble_eq_true rfl) rfl rfl ?_
      refine w_iload_n (i := 1) (n' := 43) dX5_weather_42 rfl rfl rfl ?_
      refine w_iload_n (i := 2) (n' := 44) dX5_weather_43 rfl rfl rfl ?_
      refine w_iast (n := n) (n' := 45) dX5_weather_44 rfl rfl hw (show n < 3 by omega) ?_
      refine w_iload_n (i := 3) (n' := 46) dX5_weather_45 rfl rfl rfl ?_
      exact w_iret dX5_weather_46 rfl ⟨_, rfl, Or.inr ⟨h6, h16, n, hn, hw, rfl, rfl⟩⟩
    · refine w_aload_n (i := 0) (n' := 20) dX5_weather_19 rfl rfl rfl ?_
      refine w_iconst (v := 0) (n' := 21) dX5_weather_20 rfl rfl ?_
      refine v_E (ci := 5) (n' := 24) dX5_weather_21 rfl lRX5_57 okX5_finding voX5_finding ⟨⟨Nat.le_of_ble_eq_true rfl, Nat.le_of_ble_eq_true rfl⟩, Nat.le_of_ble_eq_true rfl, Nat.le_of_ble_eq_true rfl⟩ (c_finding 0 _ (by decide) (by decide) _) rfl rfl (Nat.le_of_ble_eq_true rfl) rfl (Nat.le_of_ble_eq_true rfl) rfl ?_
      exact w_iret dX5_weather_24 rfl ⟨_, rfl, Or.inl ⟨Or.inr (by simpa using h16), rfl, rfl⟩⟩
set_option maxHeartbeats 4000000 in
theorem c5_farm {n : Nat} {mem : Mem} (h : PN mem 1 n) (a v : Int32) : CnI mX5_farm [.ref 0, .int a, .int v] mem (fun x m' => ((inR a 0 6 = 0 ∨ inR v 0 999 = 0) ∧ x = -1000001 ∧ m' = fnd mem 0) ∨ (¬ inR a 0 6 = 0 ∧ ¬ inR v 0 999 = 0 ∧ n = 8 ∧ x = -1000002 ∧ m' = fnd mem 1) ∨ (¬ inR a 0 6 = 0 ∧ ¬ inR v 0 999 = 0 ∧ n < 8 ∧ x = nI n ∧ m' = up2 (upR mem (4 + n) (beginF (mem (4 + n)) a v)) 1 3 (nI (n + 1)))) := by
  refine Cn.of (ls := [some (.ref 0), some (.int a), some (.int v)]) (by decide) rfl (Nat.le_of_ble_eq_true rfl) ?_
  refine w_iconst (v := 0) (n' := 1) dX5_farm_0 rfl rfl ?_
  refine w_iload_n (i := 1) (n' := 2) dX5_farm_1 rfl rfl rfl ?_
  refine s_E (n' := 5) dX5_farm_2 rfl lRX5_64 okX0_mayBe stX0_mayBe ⟨⟨Nat.le_of_ble_eq_true rfl, Nat.le_of_ble_eq_true rfl⟩, Nat.le_of_ble_eq_true rfl, Nat.le_of_ble_eq_true rfl⟩ (c_may0 _ _) rfl rfl (Nat.le_of_ble_eq_true rfl) ?_
  refine w_if_eq (n' := 8) (tgt := 16) dX5_farm_5 rfl rfl (fun h5 => ?_) (fun h5 => ?_)
  · refine w_aload_n (i := 0) (n' := 17) dX5_farm_16 rfl rfl rfl ?_
    refine w_iconst (v := 0) (n' := 18) dX5_farm_17 rfl rfl ?_
    refine v_E (ci := 5) (n' := 21) dX5_farm_18 rfl lRX5_57 okX5_finding voX5_finding ⟨⟨Nat.le_of_ble_eq_true rfl, Nat.le_of_ble_eq_true rfl⟩, Nat.le_of_ble_eq_true rfl, Nat.le_of_ble_eq_true rfl⟩ (c_finding 0 _ (by decide) (by decide) _) rfl rfl (Nat.le_of_ble_eq_true rfl) rfl (Nat.le_of_ble_eq_true rfl) rfl ?_
    exact w_iret dX5_farm_21 rfl ⟨_, rfl, Or.inl ⟨Or.inl h5, rfl, rfl⟩⟩
  · refine w_iconst (v := 1) (n' := 9) dX5_farm_8 rfl rfl ?_
    refine w_iload_n (i := 2) (n' := 10) dX5_farm_9 rfl rfl rfl ?_
    refine s_E (n' := 13) dX5_farm_10 rfl lRX5_64 okX0_mayBe stX0_mayBe ⟨⟨Nat.le_of_ble_eq_true rfl, Nat.le_of_ble_eq_true rfl⟩, Nat.le_of_ble_eq_true rfl, Nat.le_of_ble_eq_true rfl⟩ (c_may1 _ _) rfl rfl (Nat.le_of_ble_eq_true rfl) ?_
    refine w_if_ne (n' := 16) (tgt := 22) dX5_farm_13 rfl rfl (fun h13 => ?_) (fun h13 => ?_)
    · refine w_aload_n (i := 0) (n' := 23) dX5_farm_22 rfl rfl rfl ?_
      refine w_get (ci := 5) (j := 0) (n' := 26) dX5_farm_23 rfl fRX5_10 (Nat.le_of_ble_eq_true rfl) (Nat.le_of_ble_eq_true rfl) rfl rfl ?_
      refine v_E (ci := 1) (n' := 29) dX5_farm_26 rfl lRX5_70 okX1_isFull voX1_isFull ⟨⟨Nat.le_of_ble_eq_true rfl, Nat.le_of_ble_eq_true rfl⟩, Nat.le_of_ble_eq_true rfl, Nat.le_of_ble_eq_true rfl⟩ (c_isFull rfl _) rfl rfl (Nat.le_of_ble_eq_true rfl) rfl (Nat.le_of_ble_eq_true rfl) rfl ?_
      refine w_if_eq (n' := 32) (tgt := 38) dX5_farm_29 rfl rfl (fun h29 => ?_) (fun h29 => ?_)
      · have hn : n < 8 := by
          rcases Nat.lt_or_ge n 8 with q | q
          · exact q
          · exfalso
            have e8 : n = 8 := by have := h.2.2; omega
            rw [h.2.1, e8] at h29
            exact absurd h29 (by decide)
        refine w_aload_n (i := 0) (n' := 39) dX5_farm_38 rfl rfl rfl ?_
        refine w_get (ci := 5) (j := 0) (n' := 42) dX5_farm_39 rfl fRX5_10 (Nat.le_of_ble_eq_true rfl) (Nat.le_of_ble_eq_true rfl) rfl rfl ?_
        refine w_iload_n (i := 1) (n' := 43) dX5_farm_42 rfl rfl rfl ?_
        refine w_iload_n (i := 2) (n' := 44) dX5_farm_43 rfl rfl rfl ?_
        refine v_E (ci := 1) (n' := 47) dX5_farm_44 rfl lRX5_74 okX1_addFarm voX1_addFarm ⟨⟨Nat.le_of_ble_eq_true rfl, Nat.le_of_ble_eq_true rfl⟩, Nat.le_of_ble_eq_true rfl, Nat.le_of_ble_eq_true rfl⟩ (c_addFarm h hn _ _) rfl rfl (Nat.le_of_ble_eq_true rfl) rfl (Nat.le_of_ble_eq_true rfl) rfl ?_
        exact w_iret dX5_farm_47 rfl ⟨_, rfl, Or.inr (Or.inr ⟨h5, h13, hn, rfl, rfl⟩)⟩
      · have hn : n = 8 := by
          rcases Nat.lt_or_ge n 8 with q | q
          · exact absurd (by rw [h.2.1, if_pos (show nI n < 8 from nI_lt q (by decide))]) h29
          · have := h.2.2; omega
        refine w_aload_n (i := 0) (n' := 33) dX5_farm_32 rfl rfl rfl ?_
        refine w_iconst (v := 1) (n' := 34) dX5_farm_33 rfl rfl ?_
        refine v_E (ci := 5) (n' := 37) dX5_farm_34 rfl lRX5_57 okX5_finding voX5_finding ⟨⟨Nat.le_of_ble_eq_true rfl, Nat.le_of_ble_eq_true rfl⟩, Nat.le_of_ble_eq_true rfl, Nat.le_of_ble_eq_true rfl⟩ (c_finding 1 _ (by decide) (by decide) _) rfl rfl (Nat.le_of_ble_eq_true rfl) rfl (Nat.le_of_ble_eq_true rfl) rfl ?_
        exact w_iret dX5_farm_37 rfl ⟨_, rfl, Or.inr (Or.inl ⟨h5, h13, hn, rfl, rfl⟩)⟩
    · refine w_aload_n (i := 0) (n' := 17) dX5_farm_16 rfl rfl rfl ?_
      refine w_iconst (v := 0) (n' := 18) dX5_farm_17 rfl rfl ?_
      refine v_E (ci := 5) (n' := 21) dX5_farm_18 rfl lRX5_57 okX5_finding voX5_finding ⟨⟨Nat.le_of_ble_eq_true rfl, Nat.le_of_ble_eq_true rfl⟩, Nat.le_of_ble_eq_true rfl, Nat.le_of_ble_eq_true rfl⟩ (c_finding 0 _ (by decide) (by decide) _) rfl rfl (Nat.le_of_ble_eq_true rfl) rfl (Nat.le_of_ble_eq_true rfl) rfl ?_
      exact w_iret dX5_farm_21 rfl ⟨_, rfl, Or.inl ⟨Or.inr (by simpa using h13), rfl, rfl⟩⟩
def ofC (m : Mem) (i : Nat) (what : Int32) : Int32 := if what = 5 then reapF (m (4 + i) 0) (m (4 + i) 2) (m 2 0) (m (4 + i) 1) else if what = 6 then DP m 1 i else if what = 7 then tellF (m (4 + i) 0) (m (4 + i) 4) else toldF (m (4 + i)) what
set_option maxHeartbeats 4000000 in
theorem c5_of {n : Nat} {mem : Mem} (h : PO mem 1 n) (f a : Int32) : CnI mX5_of [.ref 0, .int f, .int a] mem (fun x m' => ((inR f 0 (nI n - 1) = 0 ∨ inR a 0 7 = 0) ∧ x = -1000001 ∧ m' = fnd mem 0) ∨ (¬ inR a 0 7 = 0 ∧ ∃ i, i < n ∧ f = nI i ∧ x = ofC mem i a ∧ Same mem m')) := by
  refine Cn.of (ls := [some (.ref 0), some (.int f), some (.int a), none, none]) (by decide) rfl (Nat.le_of_ble_eq_true rfl) ?_
  refine w_aload_n (i := 0) (n' := 1) dX5_of_0 rfl rfl rfl ?_
  refine w_get (ci := 5) (j := 0) (n' := 4) dX5_of_1 rfl fRX5_10 (Nat.le_of_ble_eq_true rfl) (Nat.le_of_ble_eq_true rfl) rfl rfl ?_
  refine w_iload_n (i := 1) (n' := 5) dX5_of_4 rfl rfl rfl ?_
  refine v_E (ci := 1) (n' := 8) dX5_of_5 rfl lRX5_78 okX1_hasFarm voX1_hasFarm ⟨⟨Nat.le_of_ble_eq_true rfl, Nat.le_of_ble_eq_true rfl⟩, Nat.le_of_ble_eq_true rfl, Nat.le_of_ble_eq_true rfl⟩ (c_hasFarm rfl _ _) rfl rfl (Nat.le_of_ble_eq_true rfl) rfl (Nat.le_of_ble_eq_true rfl) rfl ?_
  refine w_if_eq (n' := 11) (tgt := 21) dX5_of_8 rfl rfl (fun h8 => ?_) (fun h8 => ?_)
  · rw [h.2.1] at h8
    refine w_aload_n (i := 0) (n' := 22) dX5_of_21 rfl rfl rfl ?_
    refine w_iconst (v := 0) (n' := 23) dX5_of_22 rfl rfl ?_
    refine v_E (ci := 5) (n' := 26) dX5_of_23 rfl lRX5_57 okX5_finding voX5_finding ⟨⟨Nat.le_of_ble_eq_true rfl, Nat.le_of_ble_eq_true rfl⟩, Nat.le_of_ble_eq_true rfl, Nat.le_of_ble_eq_true rfl⟩ (c_finding 0 _ (by decide) (by decide) _) rfl rfl (Nat.le_of_ble_eq_true rfl) rfl (Nat.le_of_ble_eq_true rfl) rfl ?_
    exact w_iret dX5_of_26 rfl ⟨_, rfl, Or.inl ⟨Or.inl h8, rfl, rfl⟩⟩
  · obtain ⟨i, hi1, hi2⟩ := hasF_of (n := n) (by have := h.2.2.1; omega) (by rw [← h.2.1]; exact h8)
    refine w_iload_n (i := 2) (n' := 12) dX5_of_11 rfl rfl rfl ?_
    refine w_iconst (v := 0) (n' := 13) dX5_of_12 rfl rfl ?_
    refine w_bipush (v := 7) (n' := 15) dX5_of_13 rfl (by decide) ?_
    refine s_E (n' := 18) dX5_of_15 rfl lRX5_53 okX5_within stX5_within ⟨⟨Nat.le_of_ble_eq_true rfl, Nat.le_of_ble_eq_true rfl⟩, Nat.le_of_ble_eq_true rfl, Nat.le_of_ble_eq_true rfl⟩ (c_within _ _ _ _) rfl rfl (Nat.le_of_ble_eq_true rfl) ?_
    refine w_if_ne (n' := 21) (tgt := 27) dX5_of_18 rfl rfl (fun h18 => ?_) (fun h18 => ?_)
    · refine w_aload_n (i := 0) (n' := 28) dX5_of_27 rfl rfl rfl ?_
      refine w_get (ci := 5) (j := 0) (n' := 31) dX5_of_28 rfl fRX5_10 (Nat.le_of_ble_eq_true rfl) (Nat.le_of_ble_eq_true rfl) rfl rfl ?_
      refine w_get (ci := 1) (j := 1) (n' := 34) dX5_of_31 rfl fRX5_82 (Nat.le_of_ble_eq_true rfl) (Nat.le_of_ble_eq_true rfl) rfl rfl ?_
      refine w_iload_n (i := 1) (n' := 35) dX5_of_34 rfl rfl rfl ?_
      refine w_aaldF (n := i) (n' := 36) dX5_of_35 rfl rfl hi2 (show i < 8 by have := h.2.2.1; omega) ?_
      refine w_astore_n (i := 3) (n' := 37) (ls' := [_, _, _, _, _]) dX5_of_36 rfl rfl (Nat.le_of_ble_eq_true rfl) rfl rfl ?_
      refine w_aload_n (i := 0) (n' := 38) dX5_of_37 rfl rfl rfl ?_
      refine w_get (ci := 5) (j := 0) (n' := 41) dX5_of_38 rfl fRX5_10 (Nat.le_of_ble_eq_true rfl) (Nat.le_of_ble_eq_true rfl) rfl rfl ?_
      refine w_get (ci := 1) (j := 0) (n' := 44) dX5_of_41 rfl fRX5_61 (Nat.le_of_ble_eq_true rfl) (Nat.le_of_ble_eq_true rfl) rfl rfl ?_
      refine w_iconst (v := 0) (n' := 45) dX5_of_44 rfl rfl ?_
      refine w_iald (n := 0) (n' := 46) dX5_of_45 rfl rfl (by decide) (by decide) ?_
      refine w_istore (n' := 48) (ls' := [_, _, _, _, _]) dX5_of_46 rfl (Nat.le_of_ble_eq_true rfl) rfl rfl ?_
      refine w_iload_n (i := 2) (n' := 49) dX5_of_48 rfl rfl rfl ?_
      refine w_tc (5) (tgt := 76) dX5_of_49 (by decide) (by decide) rfl rfl (fun e49_0 => ?_) (fun e49_0 => ?_)
      · refine w_aload_n (i := 3) (n' := 77) dX5_of_76 rfl rfl rfl ?_
        refine w_aload_n (i := 3) (n' := 78) dX5_of_77 rfl rfl rfl ?_
        refine w_get (ci := 0) (j := 1) (n' := 81) dX5_of_78 rfl fRX5_86 (Nat.le_of_ble_eq_true rfl) (Nat.le_of_ble_eq_true rfl) (show kd (4 + i) = 0 from (kPa (k := 1) rfl).2.2.1 i (by have := h.2.2.1; omega)) rfl ?_
        refine w_iload (n' := 83) dX5_of_81 rfl rfl ?_
        refine v_E (ci := 0) (n' := 86) dX5_of_83 rfl lRX5_90 okX0_reapsOf voX0_reapsOf ⟨⟨Nat.le_of_ble_eq_true rfl, Nat.le_of_ble_eq_true rfl⟩, Nat.le_of_ble_eq_true rfl, Nat.le_of_ble_eq_true rfl⟩ (c_reapsOf (show kd (4 + i) = 0 from (kPa (k := 1) rfl).2.2.1 i (by have := h.2.2.1; omega)) _ _ _) rfl rfl (Nat.le_of_ble_eq_true rfl) (show kd (4 + i) = 0 from (kPa (k := 1) rfl).2.2.1 i (by have := h.2.2.1; omega)) (Nat.le_of_ble_eq_true rfl) rfl ?_
        exact w_iret dX5_of_86 rfl ⟨_, rfl, Or.inr ⟨h18, i, hi1, hi2, by rw [ofC, if_pos e49_0], Same.rf h.2.2.2.2⟩⟩
      refine w_tc (6) (tgt := 87) dX5_of_49 (by decide) (by decide) rfl rfl (fun e49_1 => ?_) (fun e49_1 => ?_)
      · refine w_aload_n (i := 3) (n' := 88) dX5_of_87 rfl rfl rfl ?_
        refine w_iload (n' := 90) dX5_of_88 rfl rfl ?_
        refine v_I (ci := 0) (n' := 93) dX5_of_90 rfl lRX5_93 okX0_daysIn voX0_daysIn ⟨⟨Nat.le_of_ble_eq_true rfl, Nat.le_of_ble_eq_true rfl⟩, Nat.le_of_ble_eq_true rfl, Nat.le_of_ble_eq_true rfl⟩ (c_daysIn (show kd (4 + i) = 0 from (kPa (k := 1) rfl).2.2.1 i (by have := h.2.2.1; omega)) _ h.2.2.2.1 _ h.2.2.2.2) rfl rfl (Nat.le_of_ble_eq_true rfl) (show kd (4 + i) = 0 from (kPa (k := 1) rfl).2.2.1 i (by have := h.2.2.1; omega)) (Nat.le_of_ble_eq_true rfl) rfl (fun x90 m90 q90 => ?_)
        exact w_iret dX5_of_93 rfl ⟨_, rfl, Or.inr ⟨h18, i, hi1, hi2, by rw [ofC, if_neg e49_0, if_pos e49_1, q90.1]; rfl, q90.2.1, q90.2.2.1⟩⟩
      refine w_tc (7) (tgt := 94) dX5_of_49 (by decide) (by decide) rfl rfl (fun e49_2 => ?_) (fun e49_2 => ?_)
      · refine w_aload_n (i := 3) (n' := 95) dX5_of_94 rfl rfl rfl ?_
        refine v_E (ci := 0) (n' := 98) dX5_of_95 rfl lRX5_96 okX0_tells voX0_tells ⟨⟨Nat.le_of_ble_eq_true rfl, Nat.le_of_ble_eq_true rfl⟩, Nat.le_of_ble_eq_true rfl, Nat.le_of_ble_eq_true rfl⟩ (c_tells (show kd (4 + i) = 0 from (kPa (k := 1) rfl).2.2.1 i (by have := h.2.2.1; omega)) _) rfl rfl (Nat.le_of_ble_eq_true rfl) (show kd (4 + i) = 0 from (kPa (k := 1) rfl).2.2.1 i (by have := h.2.2.1; omega)) (Nat.le_of_ble_eq_true rfl) rfl ?_
        exact w_iret dX5_of_98 rfl ⟨_, rfl, Or.inr ⟨h18, i, hi1, hi2, by rw [ofC, if_neg e49_0, if_neg e49_1, if_pos e49_2], Same.rf h.2.2.2.2⟩⟩
      refine w_td [5, 6, 7] (tgt := 99) dX5_of_49 rfl (by decide) (List.forall_mem_cons.mpr ⟨e49_0, (List.forall_mem_cons.mpr ⟨e49_1, (List.forall_mem_cons.mpr ⟨e49_2, (fun _ h => absurd h List.not_mem_nil)⟩)⟩)⟩) ?_
      refine w_aload_n (i := 3) (n' := 100) dX5_of_99 rfl rfl rfl ?_
      refine w_iload_n (i := 2) (n' := 101) dX5_of_100 rfl rfl rfl ?_
      refine v_E (ci := 0) (n' := 104) dX5_of_101 rfl lRX5_100 okX0_told voX0_told ⟨⟨Nat.le_of_ble_eq_true rfl, Nat.le_of_ble_eq_true rfl⟩, Nat.le_of_ble_eq_true rfl, Nat.le_of_ble_eq_true rfl⟩ (c_told (show kd (4 + i) = 0 from (kPa (k := 1) rfl).2.2.1 i (by have := h.2.2.1; omega)) _ _) rfl rfl (Nat.le_of_ble_eq_true rfl) (show kd (4 + i) = 0 from (kPa (k := 1) rfl).2.2.1 i (by have := h.2.2.1; omega)) (Nat.le_of_ble_eq_true rfl) rfl ?_
      exact w_iret dX5_of_104 rfl ⟨_, rfl, Or.inr ⟨h18, i, hi1, hi2, by rw [ofC, if_neg e49_0, if_neg e49_1, if_neg e49_2], Same.rf h.2.2.2.2⟩⟩
    · refine w_aload_n (i := 0) (n' := 22) dX5_of_21 rfl rfl rfl ?_
      refine w_iconst (v := 0) (n' := 23) dX5_of_22 rfl rfl ?_
      refine v_E (ci := 5) (n' := 26) dX5_of_23 rfl lRX5_57 okX5_finding voX5_finding ⟨⟨Nat.le_of_ble_eq_true rfl, Nat.le_of_ble_eq_true rfl⟩, Nat.le_of_ble_eq_true rfl, Nat.le_of_ble_eq_true rfl⟩ (c_finding 0 _ (by decide) (by decide) _) rfl rfl (Nat.le_of_ble_eq_true rfl) rfl (Nat.le_of_ble_eq_true rfl) rfl ?_
      exact w_iret dX5_of_26 rfl ⟨_, rfl, Or.inl ⟨Or.inr (by simpa using h18), rfl, rfl⟩⟩
set_option maxHeartbeats 4000000 in
theorem c5_change {n : Nat} {mem : Mem} (h : PO mem 1 n) (f a v : Int32) : CnI mX5_change [.ref 0, .int f, .int a, .int v] mem (fun x m' => ((inR f 0 (nI n - 1) = 0 ∨ mayI a v = 0) ∧ x = -1000001 ∧ m' = fnd mem 0) ∨ (¬ mayI a v = 0 ∧ ∃ i, i < n ∧ f = nI i ∧ x = toldF (mem (4 + i)) a ∧ m' = alterF mem (4 + i) a v)) := by
  refine Cn.of (ls := [some (.ref 0), some (.int f), some (.int a), some (.int v), none, none]) (by decide) rfl (Nat.le_of_ble_eq_true rfl) ?_
  refine w_aload_n (i := 0) (n' := 1) dX5_change_0 rfl rfl rfl ?_
  refine w_get (ci := 5) (j := 0) (n' := 4) dX5_change_1 rfl fRX5_10 (Nat.le_of_ble_eq_true rfl) (Nat.le_of_ble_eq_true rfl) rfl rfl ?_
  refine w_iload_n (i := 1) (n' := 5) dX5_change_4 rfl rfl rfl ?_
  refine v_E (ci := 1) (n' := 8) dX5_change_5 rfl lRX5_78 okX1_hasFarm voX1_hasFarm ⟨⟨Nat.le_of_ble_eq_true rfl, Nat.le_of_ble_eq_true rfl⟩, Nat.le_of_ble_eq_true rfl, Nat.le_of_ble_eq_true rfl⟩ (c_hasFarm rfl _ _) rfl rfl (Nat.le_of_ble_eq_true rfl) rfl (Nat.le_of_ble_eq_true rfl) rfl ?_
  refine w_if_eq (n' := 11) (tgt := 19) dX5_change_8 rfl rfl (fun h8 => ?_) (fun h8 => ?_)
  · rw [h.2.1] at h8
    refine w_aload_n (i := 0) (n' := 20) dX5_change_19 rfl rfl rfl ?_
    refine w_iconst (v := 0) (n' := 21) dX5_change_20 rfl rfl ?_
    refine v_E (ci := 5) (n' := 24) dX5_change_21 rfl lRX5_57 okX5_finding voX5_finding ⟨⟨Nat.le_of_ble_eq_true rfl, Nat.le_of_ble_eq_true rfl⟩, Nat.le_of_ble_eq_true rfl, Nat.le_of_ble_eq_true rfl⟩ (c_finding 0 _ (by decide) (by decide) _) rfl rfl (Nat.le_of_ble_eq_true rfl) rfl (Nat.le_of_ble_eq_true rfl) rfl ?_
    exact w_iret dX5_change_24 rfl ⟨_, rfl, Or.inl ⟨Or.inl h8, rfl, rfl⟩⟩
  · obtain ⟨i, hi1, hi2⟩ := hasF_of (n := n) (by have := h.2.2.1; omega) (by rw [← h.2.1]; exact h8)
    refine w_iload_n (i := 2) (n' := 12) dX5_change_11 rfl rfl rfl ?_
    refine w_iload_n (i := 3) (n' := 13) dX5_change_12 rfl rfl rfl ?_
    refine s_E (n' := 16) dX5_change_13 rfl lRX5_64 okX0_mayBe stX0_mayBe ⟨⟨Nat.le_of_ble_eq_true rfl, Nat.le_of_ble_eq_true rfl⟩, Nat.le_of_ble_eq_true rfl, Nat.le_of_ble_eq_true rfl⟩ (c_mayBe _ _ _) rfl rfl (Nat.le_of_ble_eq_true rfl) ?_
    refine w_if_ne (n' := 19) (tgt := 25) dX5_change_16 rfl rfl (fun h16 => ?_) (fun h16 => ?_)
    · refine w_aload_n (i := 0) (n' := 26) dX5_change_25 rfl rfl rfl ?_
      refine w_get (ci := 5) (j := 0) (n' := 29) dX5_change_26 rfl fRX5_10 (Nat.le_of_ble_eq_true rfl) (Nat.le_of_ble_eq_true rfl) rfl rfl ?_
      refine w_get (ci := 1) (j := 1) (n' := 32) dX5_change_29 rfl fRX5_82 (Nat.le_of_ble_eq_true rfl) (Nat.le_of_ble_eq_true rfl) rfl rfl ?_
      refine w_iload_n (i := 1) (n' := 33) dX5_change_32 rfl rfl rfl ?_
      refine w_aaldF (n := i) (n' := 34) dX5_change_33 rfl rfl hi2 (show i < 8 by have := h.2.2.1; omega) ?_
      refine w_astore (n' := 36) (ls' := [_, _, _, _, _, _]) dX5_change_34 rfl (Nat.le_of_ble_eq_true rfl) rfl rfl ?_
      refine w_aload (n' := 38) dX5_change_36 rfl rfl ?_
      refine w_iload_n (i := 2) (n' := 39) dX5_change_38 rfl rfl rfl ?_
      refine v_E (ci := 0) (n' := 42) dX5_change_39 rfl lRX5_100 okX0_told voX0_told ⟨⟨Nat.le_of_ble_eq_true rfl, Nat.le_of_ble_eq_true rfl⟩, Nat.le_of_ble_eq_true rfl, Nat.le_of_ble_eq_true rfl⟩ (c_told (show kd (4 + i) = 0 from (kPa (k := 1) rfl).2.2.1 i (by have := h.2.2.1; omega)) _ _) rfl rfl (Nat.le_of_ble_eq_true rfl) (show kd (4 + i) = 0 from (kPa (k := 1) rfl).2.2.1 i (by have := h.2.2.1; omega)) (Nat.le_of_ble_eq_true rfl) rfl ?_
      refine w_istore (n' := 44) (ls' := [_, _, _, _, _, _]) dX5_change_42 rfl (Nat.le_of_ble_eq_true rfl) rfl rfl ?_
      refine w_aload (n' := 46) dX5_change_44 rfl rfl ?_
      refine w_iload_n (i := 2) (n' := 47) dX5_change_46 rfl rfl rfl ?_
      refine w_iload_n (i := 3) (n' := 48) dX5_change_47 rfl rfl rfl ?_
      refine v_E (ci := 0) (n' := 51) dX5_change_48 rfl lRX5_103 okX0_alter voX0_alter ⟨⟨Nat.le_of_ble_eq_true rfl, Nat.le_of_ble_eq_true rfl⟩, Nat.le_of_ble_eq_true rfl, Nat.le_of_ble_eq_true rfl⟩ (c_alter (show kd (4 + i) = 0 from (kPa (k := 1) rfl).2.2.1 i (by have := h.2.2.1; omega)) _ _ _) rfl rfl (Nat.le_of_ble_eq_true rfl) (show kd (4 + i) = 0 from (kPa (k := 1) rfl).2.2.1 i (by have := h.2.2.1; omega)) (Nat.le_of_ble_eq_true rfl) rfl ?_
      refine w_iload (n' := 53) dX5_change_51 rfl rfl ?_
      exact w_iret dX5_change_53 rfl ⟨_, rfl, Or.inr ⟨h16, i, hi1, hi2, rfl, rfl⟩⟩
    · refine w_aload_n (i := 0) (n' := 20) dX5_change_19 rfl rfl rfl ?_
      refine w_iconst (v := 0) (n' := 21) dX5_change_20 rfl rfl ?_
      refine v_E (ci := 5) (n' := 24) dX5_change_21 rfl lRX5_57 okX5_finding voX5_finding ⟨⟨Nat.le_of_ble_eq_true rfl, Nat.le_of_ble_eq_true rfl⟩, Nat.le_of_ble_eq_true rfl, Nat.le_of_ble_eq_true rfl⟩ (c_finding 0 _ (by decide) (by decide) _) rfl rfl (Nat.le_of_ble_eq_true rfl) rfl (Nat.le_of_ble_eq_true rfl) rfl ?_
      exact w_iret dX5_change_24 rfl ⟨_, rfl, Or.inl ⟨Or.inr (by simpa using h16), rfl, rfl⟩⟩
set_option maxHeartbeats 4000000 in
theorem c5_left {n : Nat} {mem : Mem} (h : PO mem 1 n) (f a : Int32) : CnI mX5_left [.ref 0, .int f, .int a] mem (fun x m' => ((inR f 0 (nI n - 1) = 0 ∨ inR a 0 999 = 0) ∧ x = -1000001 ∧ m' = fnd mem 0) ∨ (¬ inR a 0 999 = 0 ∧ ∃ i, i < n ∧ f = nI i ∧ x = leftI (mem (4 + i) 0) (mem (4 + i) 1) (mem (4 + i) 2) (mem 2 0) a ∧ m' = mem)) := by
  refine Cn.of (ls := [some (.ref 0), some (.int f), some (.int a)]) (by decide) rfl (Nat.le_of_ble_eq_true rfl) ?_
  refine w_aload_n (i := 0) (n' := 1) dX5_left_0 rfl rfl rfl ?_
  refine w_get (ci := 5) (j := 0) (n' := 4) dX5_left_1 rfl fRX5_10 (Nat.le_of_ble_eq_true rfl) (Nat.le_of_ble_eq_true rfl) rfl rfl ?_
  refine w_iload_n (i := 1) (n' := 5) dX5_left_4 rfl rfl rfl ?_
  refine v_E (ci := 1) (n' := 8) dX5_left_5 rfl lRX5_78 okX1_hasFarm voX1_hasFarm ⟨⟨Nat.le_of_ble_eq_true rfl, Nat.le_of_ble_eq_true rfl⟩, Nat.le_of_ble_eq_true rfl, Nat.le_of_ble_eq_true rfl⟩ (c_hasFarm rfl _ _) rfl rfl (Nat.le_of_ble_eq_true rfl) rfl (Nat.le_of_ble_eq_true rfl) rfl ?_
  refine w_if_eq (n' := 11) (tgt := 22) dX5_left_8 rfl rfl (fun h8 => ?_) (fun h8 => ?_)
  · rw [h.2.1] at h8
    refine w_aload_n (i := 0) (n' := 23) dX5_left_22 rfl rfl rfl ?_
    refine w_iconst (v := 0) (n' := 24) dX5_left_23 rfl rfl ?_
    refine v_E (ci := 5) (n' := 27) dX5_left_24 rfl lRX5_57 okX5_finding voX5_finding ⟨⟨Nat.le_of_ble_eq_true rfl, Nat.le_of_ble_eq_true rfl⟩, Nat.le_of_ble_eq_true rfl, Nat.le_of_ble_eq_true rfl⟩ (c_finding 0 _ (by decide) (by decide) _) rfl rfl (Nat.le_of_ble_eq_true rfl) rfl (Nat.le_of_ble_eq_true rfl) rfl ?_
    exact w_iret dX5_left_27 rfl ⟨_, rfl, Or.inl ⟨Or.inl h8, rfl, rfl⟩⟩
  · obtain ⟨i, hi1, hi2⟩ := hasF_of (n := n) (by have := h.2.2.1; omega) (by rw [← h.2.1]; exact h8)
    refine w_iload_n (i := 2) (n' := 12) dX5_left_11 rfl rfl rfl ?_
    refine w_iconst (v := 0) (n' := 13) dX5_left_12 rfl rfl ?_
    refine w_sipush (v := 999) (n' := 16) dX5_left_13 rfl (by decide) ?_
    refine s_E (n' := 19) dX5_left_16 rfl lRX5_53 okX5_within stX5_within ⟨⟨Nat.le_of_ble_eq_true rfl, Nat.le_of_ble_eq_true rfl⟩, Nat.le_of_ble_eq_true rfl, Nat.le_of_ble_eq_true rfl⟩ (c_within _ _ _ _) rfl rfl (Nat.le_of_ble_eq_true rfl) ?_
    refine w_if_ne (n' := 22) (tgt := 28) dX5_left_19 rfl rfl (fun h19 => ?_) (fun h19 => ?_)
    · refine w_aload_n (i := 0) (n' := 29) dX5_left_28 rfl rfl rfl ?_
      refine w_get (ci := 5) (j := 0) (n' := 32) dX5_left_29 rfl fRX5_10 (Nat.le_of_ble_eq_true rfl) (Nat.le_of_ble_eq_true rfl) rfl rfl ?_
      refine w_get (ci := 1) (j := 1) (n' := 35) dX5_left_32 rfl fRX5_82 (Nat.le_of_ble_eq_true rfl) (Nat.le_of_ble_eq_true rfl) rfl rfl ?_
      refine w_iload_n (i := 1) (n' := 36) dX5_left_35 rfl rfl rfl ?_
      refine w_aaldF (n := i) (n' := 37) dX5_left_36 rfl rfl hi2 (show i < 8 by have := h.2.2.1; omega) ?_
      refine w_iload_n (i := 2) (n' := 38) dX5_left_37 rfl rfl rfl ?_
      refine w_aload_n (i := 0) (n' := 39) dX5_left_38 rfl rfl rfl ?_
      refine w_get (ci := 5) (j := 0) (n' := 42) dX5_left_39 rfl fRX5_10 (Nat.le_of_ble_eq_true rfl) (Nat.le_of_ble_eq_true rfl) rfl rfl ?_
      refine w_get (ci := 1) (j := 0) (n' := 45) dX5_left_42 rfl fRX5_61 (Nat.le_of_ble_eq_true rfl) (Nat.le_of_ble_eq_true rfl) rfl rfl ?_
      refine w_iconst (v := 0) (n' := 46) dX5_left_45 rfl rfl ?_
      refine w_iald (n := 0) (n' := 47) dX5_left_46 rfl rfl (by decide) (by decide) ?_
      refine v_E (ci := 0) (n' := 50) dX5_left_47 rfl lRX5_107 okX0_leftBehind voX0_leftBehind ⟨⟨Nat.le_of_ble_eq_true rfl, Nat.le_of_ble_eq_true rfl⟩, Nat.le_of_ble_eq_true rfl, Nat.le_of_ble_eq_true rfl⟩ (c_leftBehind (show kd (4 + i) = 0 from (kPa (k := 1) rfl).2.2.1 i (by have := h.2.2.1; omega)) _ _ _) rfl rfl (Nat.le_of_ble_eq_true rfl) (show kd (4 + i) = 0 from (kPa (k := 1) rfl).2.2.1 i (by have := h.2.2.1; omega)) (Nat.le_of_ble_eq_true rfl) rfl ?_
      exact w_iret dX5_left_50 rfl ⟨_, rfl, Or.inr ⟨h19, i, hi1, hi2, rfl, rfl⟩⟩
    · refine w_aload_n (i := 0) (n' := 23) dX5_left_22 rfl rfl rfl ?_
      refine w_iconst (v := 0) (n' := 24) dX5_left_23 rfl rfl ?_
      refine v_E (ci := 5) (n' := 27) dX5_left_24 rfl lRX5_57 okX5_finding voX5_finding ⟨⟨Nat.le_of_ble_eq_true rfl, Nat.le_of_ble_eq_true rfl⟩, Nat.le_of_ble_eq_true rfl, Nat.le_of_ble_eq_true rfl⟩ (c_finding 0 _ (by decide) (by decide) _) rfl rfl (Nat.le_of_ble_eq_true rfl) rfl (Nat.le_of_ble_eq_true rfl) rfl ?_
      exact w_iret dX5_left_27 rfl ⟨_, rfl, Or.inl ⟨Or.inr (by simpa using h19), rfl, rfl⟩⟩
set_option maxHeartbeats 4000000 in
theorem c5_last {n : Nat} {mem : Mem} (h : PO mem 1 n) : CnI mX5_last [.ref 0] mem (fun x m' => x = (lbS (DP mem 1) 1000000 n).1 ∧ Same mem m') := by
  refine Cn.of (ls := [some (.ref 0)]) (by decide) rfl (Nat.le_of_ble_eq_true rfl) ?_
  refine w_aload_n (i := 0) (n' := 1) dX5_last_0 rfl rfl rfl ?_
  refine w_get (ci := 5) (j := 0) (n' := 4) dX5_last_1 rfl fRX5_10 (Nat.le_of_ble_eq_true rfl) (Nat.le_of_ble_eq_true rfl) rfl rfl ?_
  refine v_I (ci := 1) (n' := 7) dX5_last_4 rfl lRX5_110 okX1_latest voX1_latest ⟨⟨Nat.le_of_ble_eq_true rfl, Nat.le_of_ble_eq_true rfl⟩, Nat.le_of_ble_eq_true rfl, Nat.le_of_ble_eq_true rfl⟩ (c_latest h) rfl rfl (Nat.le_of_ble_eq_true rfl) rfl (Nat.le_of_ble_eq_true rfl) rfl (fun x4 m4 q4 => ?_)
  exact w_iret dX5_last_7 rfl ⟨_, rfl, q4⟩
set_option maxHeartbeats 4000000 in
theorem c5_first {n : Nat} {mem : Mem} (h : PO mem 1 n) : CnI mX5_first [.ref 0] mem (fun x m' => x = (erS (DP mem 1) n).1 ∧ Same mem m') := by
  refine Cn.of (ls := [some (.ref 0)]) (by decide) rfl (Nat.le_of_ble_eq_true rfl) ?_
  refine w_aload_n (i := 0) (n' := 1) dX5_first_0 rfl rfl rfl ?_
  refine w_get (ci := 5) (j := 0) (n' := 4) dX5_first_1 rfl fRX5_10 (Nat.le_of_ble_eq_true rfl) (Nat.le_of_ble_eq_true rfl) rfl rfl ?_
  refine v_I (ci := 1) (n' := 7) dX5_first_4 rfl lRX5_113 okX1_earliest voX1_earliest ⟨⟨Nat.le_of_ble_eq_true rfl, Nat.le_of_ble_eq_true rfl⟩, Nat.le_of_ble_eq_true rfl, Nat.le_of_ble_eq_true rfl⟩ (c_earliest h) rfl rfl (Nat.le_of_ble_eq_true rfl) rfl (Nat.le_of_ble_eq_true rfl) rfl (fun x4 m4 q4 => ?_)
  exact w_iret dX5_first_7 rfl ⟨_, rfl, q4⟩
set_option maxHeartbeats 4000000 in
theorem c5_next {n : Nat} {mem : Mem} (h : PO mem 1 n) : CnI mX5_next [.ref 0] mem (fun x m' => x = (lbS (DP mem 1) (mx (DP mem 1) n) n).1 ∧ Same mem m') := by
  refine Cn.of (ls := [some (.ref 0)]) (by decide) rfl (Nat.le_of_ble_eq_true rfl) ?_
  refine w_aload_n (i := 0) (n' := 1) dX5_next_0 rfl rfl rfl ?_
  refine w_get (ci := 5) (j := 0) (n' := 4) dX5_next_1 rfl fRX5_10 (Nat.le_of_ble_eq_true rfl) (Nat.le_of_ble_eq_true rfl) rfl rfl ?_
  refine w_aload_n (i := 0) (n' := 5) dX5_next_4 rfl rfl rfl ?_
  refine w_get (ci := 5) (j := 0) (n' := 8) dX5_next_5 rfl fRX5_10 (Nat.le_of_ble_eq_true rfl) (Nat.le_of_ble_eq_true rfl) rfl rfl ?_
  refine v_I (ci := 1) (n' := 11) dX5_next_8 rfl lRX5_116 okX1_mostDays voX1_mostDays ⟨⟨Nat.le_of_ble_eq_true rfl, Nat.le_of_ble_eq_true rfl⟩, Nat.le_of_ble_eq_true rfl, Nat.le_of_ble_eq_true rfl⟩ (c_mostDays h) rfl rfl (Nat.le_of_ble_eq_true rfl) rfl (Nat.le_of_ble_eq_true rfl) rfl (fun x8 m8 q8 => ?_)
  refine v_I (ci := 1) (n' := 14) dX5_next_11 rfl lRX5_119 okX1_latestBelow voX1_latestBelow ⟨⟨Nat.le_of_ble_eq_true rfl, Nat.le_of_ble_eq_true rfl⟩, Nat.le_of_ble_eq_true rfl, Nat.le_of_ble_eq_true rfl⟩ (c_latestBelow (q8.2.PO h) _) rfl rfl (Nat.le_of_ble_eq_true rfl) rfl (Nat.le_of_ble_eq_true rfl) rfl (fun x11 m11 q11 => ?_)
  exact w_iret dX5_next_14 rfl ⟨_, rfl, by rw [q11.1, q8.1, q8.2.DP rfl], q8.2.tr q11.2⟩
set_option maxHeartbeats 4000000 in
theorem c5_lean {n : Nat} {mem : Mem} (h : PO mem 1 n) : CnI mX5_lean [.ref 0] mem (fun x m' => x = leanM mem 1 n ∧ Same mem m') := by
  refine Cn.of (ls := [some (.ref 0)]) (by decide) rfl (Nat.le_of_ble_eq_true rfl) ?_
  refine w_aload_n (i := 0) (n' := 1) dX5_lean_0 rfl rfl rfl ?_
  refine w_get (ci := 5) (j := 0) (n' := 4) dX5_lean_1 rfl fRX5_10 (Nat.le_of_ble_eq_true rfl) (Nat.le_of_ble_eq_true rfl) rfl rfl ?_
  refine v_I (ci := 1) (n' := 7) dX5_lean_4 rfl lRX5_122 okX1_leanNow voX1_leanNow ⟨⟨Nat.le_of_ble_eq_true rfl, Nat.le_of_ble_eq_true rfl⟩, Nat.le_of_ble_eq_true rfl, Nat.le_of_ble_eq_true rfl⟩ (c_leanNow h) rfl rfl (Nat.le_of_ble_eq_true rfl) rfl (Nat.le_of_ble_eq_true rfl) rfl (fun x4 m4 q4 => ?_)
  exact w_iret dX5_lean_7 rfl ⟨_, rfl, q4⟩
set_option maxHeartbeats 4000000 in
theorem c5_answer {n : Nat} {mem : Mem} (h : PO mem 1 n) (q : Int32) : CnI mX5_answer [.ref 0, .int q] mem (fun x m' => (inR q (-99) 99 = 0 ∧ x = -1000001 ∧ m' = fnd mem 0) ∨ (¬ inR q (-99) 99 = 0 ∧ x = (if leanM mem 1 n < q then 0 else 1) ∧ Same mem m')) := by
  refine Cn.of (ls := [some (.ref 0), some (.int q)]) (by decide) rfl (Nat.le_of_ble_eq_true rfl) ?_
  refine w_iload_n (i := 1) (n' := 1) dX5_answer_0 rfl rfl rfl ?_
  refine s_E (n' := 4) dX5_answer_1 rfl lRX5_125 okX5_isQuestion stX5_isQuestion ⟨⟨Nat.le_of_ble_eq_true rfl, Nat.le_of_ble_eq_true rfl⟩, Nat.le_of_ble_eq_true rfl, Nat.le_of_ble_eq_true rfl⟩ (c_isQuestion _ _) rfl rfl (Nat.le_of_ble_eq_true rfl) ?_
  refine w_if_ne (n' := 7) (tgt := 13) dX5_answer_4 rfl rfl (fun h4 => ?_) (fun h4 => ?_)
  · refine w_aload_n (i := 0) (n' := 14) dX5_answer_13 rfl rfl rfl ?_
    refine w_get (ci := 5) (j := 0) (n' := 17) dX5_answer_14 rfl fRX5_10 (Nat.le_of_ble_eq_true rfl) (Nat.le_of_ble_eq_true rfl) rfl rfl ?_
    refine w_iload_n (i := 1) (n' := 18) dX5_answer_17 rfl rfl rfl ?_
    refine v_I (ci := 1) (n' := 21) dX5_answer_18 rfl lRX5_128 okX1_answerTo voX1_answerTo ⟨⟨Nat.le_of_ble_eq_true rfl, Nat.le_of_ble_eq_true rfl⟩, Nat.le_of_ble_eq_true rfl, Nat.le_of_ble_eq_true rfl⟩ (c_answerTo h _) rfl rfl (Nat.le_of_ble_eq_true rfl) rfl (Nat.le_of_ble_eq_true rfl) rfl (fun x18 m18 q18 => ?_)
    exact w_iret dX5_answer_21 rfl ⟨_, rfl, Or.inr ⟨h4, q18⟩⟩
  · refine w_aload_n (i := 0) (n' := 8) dX5_answer_7 rfl rfl rfl ?_
    refine w_iconst (v := 0) (n' := 9) dX5_answer_8 rfl rfl ?_
    refine v_E (ci := 5) (n' := 12) dX5_answer_9 rfl lRX5_57 okX5_finding voX5_finding ⟨⟨Nat.le_of_ble_eq_true rfl, Nat.le_of_ble_eq_true rfl⟩, Nat.le_of_ble_eq_true rfl, Nat.le_of_ble_eq_true rfl⟩ (c_finding 0 _ (by decide) (by decide) _) rfl rfl (Nat.le_of_ble_eq_true rfl) rfl (Nat.le_of_ble_eq_true rfl) rfl ?_
    exact w_iret dX5_answer_12 rfl ⟨_, rfl, Or.inl ⟨by simpa using h4, rfl, rfl⟩⟩
def nowC (m : Mem) (n : Nat) (a : Int32) : Int32 := if a = 0 then m 1 4 else if a = 1 then sumT (fun i => toldF (m (4 + i)) 2) n else if a = 2 then sumT (fun i => toldF (m (4 + i)) 3) n else if a = 3 then bitT (fun i => decide (¬ m (4 + i) 4 ≤ 0)) n else if a = 4 then sumT (fun i => toldF (m (4 + i)) 1) n else mx (DP m 1) n
set_option maxHeartbeats 4000000 in
theorem c5_now {n : Nat} {mem : Mem} (h : PO mem 1 n) (a : Int32) : CnI mX5_now [.ref 0, .int a] mem (fun x m' => ((¬ a = 0 ∧ ¬ a = 1 ∧ ¬ a = 2 ∧ ¬ a = 3 ∧ ¬ a = 4 ∧ ¬ a = 5) ∧ x = -1000001 ∧ m' = fnd mem 0) ∨ ((a = 0 ∨ a = 1 ∨ a = 2 ∨ a = 3 ∨ a = 4 ∨ a = 5) ∧ x = nowC mem n a ∧ Same mem m')) := by
  refine Cn.of (ls := [some (.ref 0), some (.int a)]) (by decide) rfl (Nat.le_of_ble_eq_true rfl) ?_
  refine w_iload_n (i := 1) (n' := 1) dX5_now_0 rfl rfl rfl ?_
  refine w_tc (0) (tgt := 40) dX5_now_1 (by decide) (by decide) rfl rfl (fun e1_0 => ?_) (fun e1_0 => ?_)
  · refine w_aload_n (i := 0) (n' := 41) dX5_now_40 rfl rfl rfl ?_
    refine w_get (ci := 5) (j := 0) (n' := 44) dX5_now_41 rfl fRX5_10 (Nat.le_of_ble_eq_true rfl) (Nat.le_of_ble_eq_true rfl) rfl rfl ?_
    refine w_get (ci := 1) (j := 4) (n' := 47) dX5_now_44 rfl fRX5_131 (Nat.le_of_ble_eq_true rfl) (Nat.le_of_ble_eq_true rfl) rfl rfl ?_
    exact w_iret dX5_now_47 rfl ⟨_, rfl, Or.inr ⟨by simp [e1_0], by simp [nowC, e1_0], Same.rf h.2.2.2.2⟩⟩
  refine w_tc (1) (tgt := 48) dX5_now_1 (by decide) (by decide) rfl rfl (fun e1_1 => ?_) (fun e1_1 => ?_)
  · refine w_aload_n (i := 0) (n' := 49) dX5_now_48 rfl rfl rfl ?_
    refine w_get (ci := 5) (j := 0) (n' := 52) dX5_now_49 rfl fRX5_10 (Nat.le_of_ble_eq_true rfl) (Nat.le_of_ble_eq_true rfl) rfl rfl ?_
    refine w_iconst (v := 2) (n' := 53) dX5_now_52 rfl rfl ?_
    refine v_E (ci := 1) (n' := 56) dX5_now_53 rfl lRX5_138 okX1_together voX1_together ⟨⟨Nat.le_of_ble_eq_true rfl, Nat.le_of_ble_eq_true rfl⟩, Nat.le_of_ble_eq_true rfl, Nat.le_of_ble_eq_true rfl⟩ (c_together h.N _) rfl rfl (Nat.le_of_ble_eq_true rfl) rfl (Nat.le_of_ble_eq_true rfl) rfl ?_
    exact w_iret dX5_now_56 rfl ⟨_, rfl, Or.inr ⟨by simp [e1_1], by simp [nowC, e1_0, e1_1], Same.rf h.2.2.2.2⟩⟩
  refine w_tc (2) (tgt := 57) dX5_now_1 (by decide) (by decide) rfl rfl (fun e1_2 => ?_) (fun e1_2 => ?_)
  · refine w_aload_n (i := 0) (n' := 58) dX5_now_57 rfl rfl rfl ?_
    refine w_get (ci := 5) (j := 0) (n' := 61) dX5_now_58 rfl fRX5_10 (Nat.le_of_ble_eq_true rfl) (Nat.le_of_ble_eq_true rfl) rfl rfl ?_
    refine w_iconst (v := 3) (n' := 62) dX5_now_61 rfl rfl ?_
    refine v_E (ci := 1) (n' := 65) dX5_now_62 rfl lRX5_138 okX1_together voX1_together ⟨⟨Nat.le_of_ble_eq_true rfl, Nat.le_of_ble_eq_true rfl⟩, Nat.le_of_ble_eq_true rfl, Nat.le_of_ble_eq_true rfl⟩ (c_together h.N _) rfl rfl (Nat.le_of_ble_eq_true rfl) rfl (Nat.le_of_ble_eq_true rfl) rfl ?_
    exact w_iret dX5_now_65 rfl ⟨_, rfl, Or.inr ⟨by simp [e1_2], by simp [nowC, e1_0, e1_1, e1_2], Same.rf h.2.2.2.2⟩⟩
  refine w_tc (3) (tgt := 66) dX5_now_1 (by decide) (by decide) rfl rfl (fun e1_3 => ?_) (fun e1_3 => ?_)
  · refine w_aload_n (i := 0) (n' := 67) dX5_now_66 rfl rfl rfl ?_
    refine w_get (ci := 5) (j := 0) (n' := 70) dX5_now_67 rfl fRX5_10 (Nat.le_of_ble_eq_true rfl) (Nat.le_of_ble_eq_true rfl) rfl rfl ?_
    refine v_E (ci := 1) (n' := 73) dX5_now_70 rfl lRX5_141 okX1_whoHadIt voX1_whoHadIt ⟨⟨Nat.le_of_ble_eq_true rfl, Nat.le_of_ble_eq_true rfl⟩, Nat.le_of_ble_eq_true rfl, Nat.le_of_ble_eq_true rfl⟩ (c_whoHadIt h.N) rfl rfl (Nat.le_of_ble_eq_true rfl) rfl (Nat.le_of_ble_eq_true rfl) rfl ?_
    exact w_iret dX5_now_73 rfl ⟨_, rfl, Or.inr ⟨by simp [e1_3], by simp [nowC, e1_0, e1_1, e1_2, e1_3], Same.rf h.2.2.2.2⟩⟩
  refine w_tc (4) (tgt := 74) dX5_now_1 (by decide) (by decide) rfl rfl (fun e1_4 => ?_) (fun e1_4 => ?_)
  · refine w_aload_n (i := 0) (n' := 75) dX5_now_74 rfl rfl rfl ?_
    refine w_get (ci := 5) (j := 0) (n' := 78) dX5_now_75 rfl fRX5_10 (Nat.le_of_ble_eq_true rfl) (Nat.le_of_ble_eq_true rfl) rfl rfl ?_
    refine w_iconst (v := 1) (n' := 79) dX5_now_78 rfl rfl ?_
    refine v_E (ci := 1) (n' := 82) dX5_now_79 rfl lRX5_138 okX1_together voX1_together ⟨⟨Nat.le_of_ble_eq_true rfl, Nat.le_of_ble_eq_true rfl⟩, Nat.le_of_ble_eq_true rfl, Nat.le_of_ble_eq_true rfl⟩ (c_together h.N _) rfl rfl (Nat.le_of_ble_eq_true rfl) rfl (Nat.le_of_ble_eq_true rfl) rfl ?_
    exact w_iret dX5_now_82 rfl ⟨_, rfl, Or.inr ⟨by simp [e1_4], by simp [nowC, e1_0, e1_1, e1_2, e1_3, e1_4], Same.rf h.2.2.2.2⟩⟩
  refine w_tc (5) (tgt := 83) dX5_now_1 (by decide) (by decide) rfl rfl (fun e1_5 => ?_) (fun e1_5 => ?_)
  · refine w_aload_n (i := 0) (n' := 84) dX5_now_83 rfl rfl rfl ?_
    refine w_get (ci := 5) (j := 0) (n' := 87) dX5_now_84 rfl fRX5_10 (Nat.le_of_ble_eq_true rfl) (Nat.le_of_ble_eq_true rfl) rfl rfl ?_
    refine v_I (ci := 1) (n' := 90) dX5_now_87 rfl lRX5_116 okX1_mostDays voX1_mostDays ⟨⟨Nat.le_of_ble_eq_true rfl, Nat.le_of_ble_eq_true rfl⟩, Nat.le_of_ble_eq_true rfl, Nat.le_of_ble_eq_true rfl⟩ (c_mostDays h) rfl rfl (Nat.le_of_ble_eq_true rfl) rfl (Nat.le_of_ble_eq_true rfl) rfl (fun x87 m87 q87 => ?_)
    exact w_iret dX5_now_90 rfl ⟨_, rfl, Or.inr ⟨by simp [e1_5], by simp [nowC, e1_0, e1_1, e1_2, e1_3, e1_4, q87.1], q87.2⟩⟩
  refine w_td [0, 1, 2, 3, 4, 5] (tgt := 91) dX5_now_1 rfl (by decide) (List.forall_mem_cons.mpr ⟨e1_0, (List.forall_mem_cons.mpr ⟨e1_1, (List.forall_mem_cons.mpr ⟨e1_2, (List.forall_mem_cons.mpr ⟨e1_3, (List.forall_mem_cons.mpr ⟨e1_4, (List.forall_mem_cons.mpr ⟨e1_5, (fun _ h => absurd h List.not_mem_nil)⟩)⟩)⟩)⟩)⟩)⟩) ?_
  refine w_aload_n (i := 0) (n' := 92) dX5_now_91 rfl rfl rfl ?_
  refine w_iconst (v := 0) (n' := 93) dX5_now_92 rfl rfl ?_
  refine v_E (ci := 5) (n' := 96) dX5_now_93 rfl lRX5_57 okX5_finding voX5_finding ⟨⟨Nat.le_of_ble_eq_true rfl, Nat.le_of_ble_eq_true rfl⟩, Nat.le_of_ble_eq_true rfl, Nat.le_of_ble_eq_true rfl⟩ (c_finding 0 _ (by decide) (by decide) _) rfl rfl (Nat.le_of_ble_eq_true rfl) rfl (Nat.le_of_ble_eq_true rfl) rfl ?_
  exact w_iret dX5_now_96 rfl ⟨_, rfl, Or.inl ⟨⟨e1_0, e1_1, e1_2, e1_3, e1_4, e1_5⟩, rfl, rfl⟩⟩
set_option maxHeartbeats 4000000 in
theorem c5_seed (v : Int32) (mem : Mem) : CnE mX5_seed [.ref 0, .int v] mem (some (.int (mem 1 5))) (up2 mem 1 5 v) := by
  refine Cn.of (ls := [some (.ref 0), some (.int v), none]) (by decide) rfl (Nat.le_of_ble_eq_true rfl) ?_
  refine w_aload_n (i := 0) (n' := 1) dX5_seed_0 rfl rfl rfl ?_
  refine w_get (ci := 5) (j := 0) (n' := 4) dX5_seed_1 rfl fRX5_10 (Nat.le_of_ble_eq_true rfl) (Nat.le_of_ble_eq_true rfl) rfl rfl ?_
  refine w_get (ci := 1) (j := 5) (n' := 7) dX5_seed_4 rfl fRX5_227 (Nat.le_of_ble_eq_true rfl) (Nat.le_of_ble_eq_true rfl) rfl rfl ?_
  refine w_istore_n (i := 2) (n' := 8) (ls' := [_, _, _]) dX5_seed_7 rfl rfl (Nat.le_of_ble_eq_true rfl) rfl rfl ?_
  refine w_aload_n (i := 0) (n' := 9) dX5_seed_8 rfl rfl rfl ?_
  refine w_get (ci := 5) (j := 0) (n' := 12) dX5_seed_9 rfl fRX5_10 (Nat.le_of_ble_eq_true rfl) (Nat.le_of_ble_eq_true rfl) rfl rfl ?_
  refine w_iload_n (i := 1) (n' := 13) dX5_seed_12 rfl rfl rfl ?_
  refine w_put (ci := 1) (j := 5) (n' := 16) dX5_seed_13 rfl fRX5_227 (Nat.le_of_ble_eq_true rfl) (Nat.le_of_ble_eq_true rfl) rfl rfl rfl rfl ?_
  refine w_iload_n (i := 2) (n' := 17) dX5_seed_16 rfl rfl rfl ?_
  exact w_iret dX5_seed_17 rfl ⟨rfl, rfl⟩
set_option maxHeartbeats 4000000 in
theorem c5_wipe (mem : Mem) : CnE mX5_wipe [.ref 0] mem (some (.int (mem 37 1))) (up2 mem 37 1 0) := by
  refine Cn.of (ls := [some (.ref 0), none]) (by decide) rfl (Nat.le_of_ble_eq_true rfl) ?_
  refine w_aload_n (i := 0) (n' := 1) dX5_wipe_0 rfl rfl rfl ?_
  refine w_get (ci := 5) (j := 3) (n' := 4) dX5_wipe_1 rfl fRX5_25 (Nat.le_of_ble_eq_true rfl) (Nat.le_of_ble_eq_true rfl) rfl rfl ?_
  refine w_get (ci := 3) (j := 1) (n' := 7) dX5_wipe_4 rfl fRX5_230 (Nat.le_of_ble_eq_true rfl) (Nat.le_of_ble_eq_true rfl) rfl rfl ?_
  refine w_istore_n (i := 1) (n' := 8) (ls' := [_, _]) dX5_wipe_7 rfl rfl (Nat.le_of_ble_eq_true rfl) rfl rfl ?_
  refine w_aload_n (i := 0) (n' := 9) dX5_wipe_8 rfl rfl rfl ?_
  refine w_get (ci := 5) (j := 3) (n' := 12) dX5_wipe_9 rfl fRX5_25 (Nat.le_of_ble_eq_true rfl) (Nat.le_of_ble_eq_true rfl) rfl rfl ?_
  refine w_iconst (v := 0) (n' := 13) dX5_wipe_12 rfl rfl ?_
  refine w_put (ci := 3) (j := 1) (n' := 16) dX5_wipe_13 rfl fRX5_230 (Nat.le_of_ble_eq_true rfl) (Nat.le_of_ble_eq_true rfl) rfl rfl rfl rfl ?_
  refine w_iload_n (i := 1) (n' := 17) dX5_wipe_16 rfl rfl rfl ?_
  exact w_iret dX5_wipe_17 rfl ⟨rfl, rfl⟩
set_option maxHeartbeats 4000000 in
theorem c5_image {n : Nat} {mem : Mem} (h : PN mem 1 n) : CnE mX5_image [.ref 0] mem (some (.int 1)) (up2 (becMem mem 13 1 n) 0 7 1) := by
  refine Cn.of (ls := [some (.ref 0)]) (by decide) rfl (Nat.le_of_ble_eq_true rfl) ?_
  refine w_aload_n (i := 0) (n' := 1) dX5_image_0 rfl rfl rfl ?_
  refine w_get (ci := 5) (j := 1) (n' := 4) dX5_image_1 rfl fRX5_16 (Nat.le_of_ble_eq_true rfl) (Nat.le_of_ble_eq_true rfl) rfl rfl ?_
  refine w_aload_n (i := 0) (n' := 5) dX5_image_4 rfl rfl rfl ?_
  refine w_get (ci := 5) (j := 0) (n' := 8) dX5_image_5 rfl fRX5_10 (Nat.le_of_ble_eq_true rfl) (Nat.le_of_ble_eq_true rfl) rfl rfl ?_
  refine v_E (ci := 1) (n' := 11) dX5_image_8 rfl lRX5_151 okX1_becomes voX1_becomes ⟨⟨Nat.le_of_ble_eq_true rfl, Nat.le_of_ble_eq_true rfl⟩, Nat.le_of_ble_eq_true rfl, Nat.le_of_ble_eq_true rfl⟩ (c_becomes (k := 13) rfl h (by decide)) rfl rfl (Nat.le_of_ble_eq_true rfl) rfl (Nat.le_of_ble_eq_true rfl) rfl ?_
  refine w_aload_n (i := 0) (n' := 12) dX5_image_11 rfl rfl rfl ?_
  refine w_iconst (v := 1) (n' := 13) dX5_image_12 rfl rfl ?_
  refine w_putT (ci := 5) (j := 7) (n' := 16) dX5_image_13 rfl fRX5_49 (Nat.le_of_ble_eq_true rfl) (Nat.le_of_ble_eq_true rfl) rfl rfl rfl rfl rfl ?_
  refine w_iconst (v := 1) (n' := 17) dX5_image_16 rfl rfl ?_
  exact w_iret dX5_image_17 rfl ⟨rfl, rfl⟩
set_option maxHeartbeats 4000000 in
theorem c5_undo {n : Nat} {mem : Mem} (h : PN mem 13 n) : CnI mX5_undo [.ref 0] mem (fun x m' => (mem 0 7 = 0 ∧ x = -1000004 ∧ m' = fnd mem 3) ∨ (¬ mem 0 7 = 0 ∧ x = mem 13 4 ∧ m' = becMem mem 1 13 n)) := by
  refine Cn.of (ls := [some (.ref 0)]) (by decide) rfl (Nat.le_of_ble_eq_true rfl) ?_
  refine w_aload_n (i := 0) (n' := 1) dX5_undo_0 rfl rfl rfl ?_
  refine w_get (ci := 5) (j := 7) (n' := 4) dX5_undo_1 rfl fRX5_49 (Nat.le_of_ble_eq_true rfl) (Nat.le_of_ble_eq_true rfl) rfl rfl ?_
  refine w_if_ne (n' := 7) (tgt := 13) dX5_undo_4 rfl rfl (fun h4 => ?_) (fun h4 => ?_)
  · refine w_aload_n (i := 0) (n' := 14) dX5_undo_13 rfl rfl rfl ?_
    refine w_get (ci := 5) (j := 0) (n' := 17) dX5_undo_14 rfl fRX5_10 (Nat.le_of_ble_eq_true rfl) (Nat.le_of_ble_eq_true rfl) rfl rfl ?_
    refine w_aload_n (i := 0) (n' := 18) dX5_undo_17 rfl rfl rfl ?_
    refine w_get (ci := 5) (j := 1) (n' := 21) dX5_undo_18 rfl fRX5_16 (Nat.le_of_ble_eq_true rfl) (Nat.le_of_ble_eq_true rfl) rfl rfl ?_
    refine v_E (ci := 1) (n' := 24) dX5_undo_21 rfl lRX5_151 okX1_becomes voX1_becomes ⟨⟨Nat.le_of_ble_eq_true rfl, Nat.le_of_ble_eq_true rfl⟩, Nat.le_of_ble_eq_true rfl, Nat.le_of_ble_eq_true rfl⟩ (c_becomes (k := 1) rfl h (by decide)) rfl rfl (Nat.le_of_ble_eq_true rfl) rfl (Nat.le_of_ble_eq_true rfl) rfl ?_
    refine w_aload_n (i := 0) (n' := 25) dX5_undo_24 rfl rfl rfl ?_
    refine w_get (ci := 5) (j := 0) (n' := 28) dX5_undo_25 rfl fRX5_10 (Nat.le_of_ble_eq_true rfl) (Nat.le_of_ble_eq_true rfl) rfl rfl ?_
    refine w_get (ci := 1) (j := 4) (n' := 31) dX5_undo_28 rfl fRX5_131 (Nat.le_of_ble_eq_true rfl) (Nat.le_of_ble_eq_true rfl) rfl rfl ?_
    exact w_iret dX5_undo_31 rfl ⟨_, rfl, Or.inr ⟨h4, by simp [becMem, upR_same, upd], rfl⟩⟩
  · refine w_aload_n (i := 0) (n' := 8) dX5_undo_7 rfl rfl rfl ?_
    refine w_iconst (v := 3) (n' := 9) dX5_undo_8 rfl rfl ?_
    refine v_E (ci := 5) (n' := 12) dX5_undo_9 rfl lRX5_57 okX5_finding voX5_finding ⟨⟨Nat.le_of_ble_eq_true rfl, Nat.le_of_ble_eq_true rfl⟩, Nat.le_of_ble_eq_true rfl, Nat.le_of_ble_eq_true rfl⟩ (c_finding 3 _ (by decide) (by decide) _) rfl rfl (Nat.le_of_ble_eq_true rfl) rfl (Nat.le_of_ble_eq_true rfl) rfl ?_
    exact w_iret dX5_undo_12 rfl ⟨_, rfl, Or.inl ⟨by simpa using h4, rfl, rfl⟩⟩
set_option maxHeartbeats 4000000 in
theorem c5_tear (mem : Mem) : CnE mX5_tear [.ref 0] mem (some (.int (if mem 0 7 = 0 then 0 else 1))) (up2 mem 0 7 0) := by
  refine Cn.of (ls := [some (.ref 0), none]) (by decide) rfl (Nat.le_of_ble_eq_true rfl) ?_
  refine w_aload_n (i := 0) (n' := 1) dX5_tear_0 rfl rfl rfl ?_
  refine w_get (ci := 5) (j := 7) (n' := 4) dX5_tear_1 rfl fRX5_49 (Nat.le_of_ble_eq_true rfl) (Nat.le_of_ble_eq_true rfl) rfl rfl ?_
  refine w_if_eq (n' := 7) (tgt := 11) dX5_tear_4 rfl rfl (fun h4 => ?_) (fun h4 => ?_)
  · refine w_iconst (v := 0) (n' := 12) dX5_tear_11 rfl rfl ?_
    refine w_istore_n (i := 1) (n' := 13) (ls' := [_, _]) dX5_tear_12 rfl rfl (Nat.le_of_ble_eq_true rfl) rfl rfl ?_
    refine w_aload_n (i := 0) (n' := 14) dX5_tear_13 rfl rfl rfl ?_
    refine w_iconst (v := 0) (n' := 15) dX5_tear_14 rfl rfl ?_
    refine w_putT (ci := 5) (j := 7) (n' := 18) dX5_tear_15 rfl fRX5_49 (Nat.le_of_ble_eq_true rfl) (Nat.le_of_ble_eq_true rfl) rfl rfl rfl rfl rfl ?_
    refine w_iload_n (i := 1) (n' := 19) dX5_tear_18 rfl rfl rfl ?_
    exact w_iret dX5_tear_19 rfl ⟨by simp [h4], rfl⟩
  · refine w_iconst (v := 1) (n' := 8) dX5_tear_7 rfl rfl ?_
    refine w_goto (tgt := 12) dX5_tear_8 rfl ?_
    refine w_istore_n (i := 1) (n' := 13) (ls' := [_, _]) dX5_tear_12 rfl rfl (Nat.le_of_ble_eq_true rfl) rfl rfl ?_
    refine w_aload_n (i := 0) (n' := 14) dX5_tear_13 rfl rfl rfl ?_
    refine w_iconst (v := 0) (n' := 15) dX5_tear_14 rfl rfl ?_
    refine w_putT (ci := 5) (j := 7) (n' := 18) dX5_tear_15 rfl fRX5_49 (Nat.le_of_ble_eq_true rfl) (Nat.le_of_ble_eq_true rfl) rfl rfl rfl rfl rfl ?_
    refine w_iload_n (i := 1) (n' := 19) dX5_tear_18 rfl rfl rfl ?_
    exact w_iret dX5_tear_19 rfl ⟨by simp [h4], rfl⟩
