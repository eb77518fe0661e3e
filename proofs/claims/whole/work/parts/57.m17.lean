/-! the reference: the reader's state is a place and a row -/
def nxF (B : Nat → Int32) (T f : Nat) : Nat := lexF B T (lexE B T f)
def psM (m : Mem) (T f : Nat) (r : Nat → Int32) (w : Int32) : Mem := up2 (tkM (upR m 51 r) (lexK (BT m T f)) (nI f) (nI (lexE (BT m T) T f)) (lexV (BT m T) T f)) 50 19 w
theorem lexF_le (B : Nat → Int32) {T p : Nat} (h : p ≤ T) : p ≤ lexF B T p ∧ lexF B T p ≤ T := endN_le _ _ h
theorem lexE_le {m : Mem} {T f : Nat} (h : f ≤ T) : f ≤ lexE (BT m T) T f ∧ lexE (BT m T) T f ≤ T := by
  unfold lexE
  obtain ⟨K, hK⟩ : ∃ K, K = lexK (BT m T f) := ⟨_, rfl⟩
  rw [← hK]
  by_cases c : K ≤ 2
  · rw [if_pos c]
    have h1 := endN_le leT (BT m T) h
    have h2 := endN_le dgT (BT m T) h
    by_cases c1 : K = 1
    · have c2 : ¬ K = 2 := by rw [c1]; decide
      rw [if_neg c2, if_pos c1]
      omega
    · by_cases c2 : K = 2
      · rw [if_pos c2, if_neg c1]
        omega
      · rw [if_neg c2, if_neg c1]
        omega
  · have c1 : ¬ K = 1 := fun q => c (by rw [q]; decide)
    have c2 : ¬ K = 2 := fun q => c (by rw [q]; decide)
    rw [if_neg c, if_neg c2, if_neg c1]
    have : f < T := by
      rcases Nat.lt_or_ge f T with q | q
      · exact q
      · exfalso
        rw [BT_no q] at hK
        exact c (by rw [hK]; decide)
    omega
theorem nxF_le {m : Mem} {T f : Nat} (h : f ≤ T) : f ≤ nxF (BT m T) T f ∧ nxF (BT m T) T f ≤ T := by
  have h1 := lexE_le (m := m) h
  have h2 := lexF_le (BT m T) h1.2
  unfold nxF
  omega
section PS
variable (m : Mem) (T f : Nat) (r : Nat → Int32) (w : Int32)
theorem ps_15 : psM m T f r w 50 15 = lexK (BT m T f) := by unfold psM; rw [up2_same]; simp only [upd]; rw [if_neg (by decide), tk_15]
theorem ps_16 : psM m T f r w 50 16 = nI f := by unfold psM; rw [up2_same]; simp only [upd]; rw [if_neg (by decide), tk_16]
theorem ps_17 : psM m T f r w 50 17 = nI (lexE (BT m T) T f) := by unfold psM; rw [up2_same]; simp only [upd]; rw [if_neg (by decide), tk_17]
theorem ps_18 : psM m T f r w 50 18 = lexV (BT m T) T f := by unfold psM; rw [up2_same]; simp only [upd]; rw [if_neg (by decide), tk_18]
theorem ps_19 : psM m T f r w 50 19 = w := by unfold psM; rw [up2_v1]
theorem ps_7 : psM m T f r w 50 7 = m 50 7 := by unfold psM; rw [up2_same]; simp only [upd]; rw [if_neg (by decide), tk_7, upR_ne _ _ (by decide)]
theorem ps_51 : psM m T f r w 51 = r := by unfold psM; rw [up2_ne _ _ _ (by decide), tk_o _ _ _ _ _ (by decide), upR_same]
theorem ps_o {a : Nat} (h1 : a ≠ 50) (h2 : a ≠ 51) : psM m T f r w a = m a := by unfold psM; rw [up2_ne _ _ _ h1, tk_o _ _ _ _ _ h1, upR_ne _ _ h2]
theorem ps_B : BT (psM m T f r w) T = BT m T := by
  funext j
  unfold BT
  rw [ps_o _ _ _ _ _ (by decide) (by decide)]
theorem ps_fail (x : Int32) : up2 (psM m T f r w) 50 19 x = psM m T f r x := by
  unfold psM
  rw [up2_eq, up2_eq, up2_eq, upR_same, upR_upR]
  congr 1
  funext j
  by_cases c : j = 19 <;> simp [upd, c]
theorem ps_row (p : Nat) (x : Int32) : up2 (psM m T f r w) 51 p x = psM m T f (upd r p x) w := by
  funext a
  by_cases h : a = 51
  · subst h
    rw [up2_same, ps_51, ps_51]
  · rw [up2_ne _ _ _ h]
    by_cases h2 : a = 50
    · subst h2
      unfold psM
      rw [up2_same, up2_same]
      unfold tkM
      rw [upR_same, upR_same, upR_ne _ _ (by decide), upR_ne _ _ (by decide)]
    · rw [ps_o _ _ _ _ _ h2 h, ps_o _ _ _ _ _ h2 h]
theorem ps_lex : lexM (psM m T f r w) T (lexE (BT m T) T f) = psM m T (nxF (BT m T) T f) r w := by
  unfold lexM
  rw [ps_B]
  show tkM (psM m T f r w) (lexK (BT m T (nxF (BT m T) T f))) (nI (nxF (BT m T) T f)) (nI (lexE (BT m T) T (nxF (BT m T) T f))) (lexV (BT m T) T (nxF (BT m T) T f)) = _
  obtain ⟨g, hg⟩ : ∃ g, g = nxF (BT m T) T f := ⟨_, rfl⟩
  rw [← hg]
  unfold psM tkM
  funext a
  by_cases h : a = 50
  · subst h
    rw [upR_same, up2_same, up2_same, upR_same, upR_same]
    funext j
    simp only [upd]
    repeat' split
    all_goals first | rfl | omega
  · rw [upR_ne _ _ h, up2_ne _ _ _ h, up2_ne _ _ _ h, upR_ne _ _ h, upR_ne _ _ h]
end PS
theorem c6_nextP {m : Mem} {T f : Nat} (hT : m 50 7 = nI T) (hT2 : T ≤ 120) (hf : f ≤ T) (r : Nat → Int32) (w : Int32) : CnE mX6_nextToken [.ref 50] (psM m T f r w) none (psM m T (nxF (BT m T) T f) r w) := by
  have := c6_nextToken (mem := psM m T f r w) (T := T) (p := lexE (BT m T) T f) (by rw [ps_7]; exact hT) hT2 (ps_17 _ _ _ _ _) (lexE_le hf).2
  rw [ps_lex] at this
  exact this
/-- the number at the token lies within -/
def nmB (B : Nat → Int32) (T f : Nat) (lo hi : Int32) : Bool := decide (lexK (B f) = 2) && decide (¬ inR (lexV B T f) lo hi = 0)
set_option maxHeartbeats 4000000 in
theorem c6_isNumber {m : Mem} {T f : Nat} (r : Nat → Int32) (w lo hi : Int32) : CnE mX6_isNumber [.ref 50, .int lo, .int hi] (psM m T f r w) (some (.int (bB (nmB (BT m T) T f lo hi)))) (psM m T f r (if nmB (BT m T) T f lo hi then w else nI f)) := by
  refine Cn.of (ls := [some (.ref 50), some (.int lo), some (.int hi)]) (by decide) rfl (Nat.le_of_ble_eq_true rfl) ?_
  refine w_aload_n (i := 0) (n' := 1) dX6_isNumber_0 rfl rfl rfl ?_
  refine w_get (ci := 6) (j := 15) (n' := 4) dX6_isNumber_1 rfl fRX6_232 (Nat.le_of_ble_eq_true rfl) (Nat.le_of_ble_eq_true rfl) rfl rfl ?_
  rw [ps_15]
  refine w_iconst (v := 2) (n' := 5) dX6_isNumber_4 rfl rfl ?_
  refine w_icmp_ne (n' := 8) (tgt := 23) dX6_isNumber_5 rfl rfl (fun h5 => ?_) (fun h5 => ?_)
  · refine w_aload_n (i := 0) (n' := 24) dX6_isNumber_23 rfl rfl rfl ?_
    refine v_E (ci := 6) (n' := 27) dX6_isNumber_24 rfl lRX6_248 okX6_fails voX6_fails ⟨⟨Nat.le_of_ble_eq_true rfl, Nat.le_of_ble_eq_true rfl⟩, Nat.le_of_ble_eq_true rfl, Nat.le_of_ble_eq_true rfl⟩ (c6_fails _) rfl rfl (Nat.le_of_ble_eq_true rfl) rfl (Nat.le_of_ble_eq_true rfl) rfl ?_
    rw [ps_16, ps_fail]
    refine w_if_eq (n' := 30) (tgt := 34) dX6_isNumber_27 rfl rfl (fun h27 => ?_) (fun h27 => absurd rfl h27)
    refine w_iconst (v := 0) (n' := 35) dX6_isNumber_34 rfl rfl ?_
    exact w_zret dX6_isNumber_35 rfl rfl ⟨by rw [nmB, decide_eq_false h5]; rfl, by rw [nmB, decide_eq_false h5]; rfl⟩
  · refine w_aload_n (i := 0) (n' := 9) dX6_isNumber_8 rfl rfl rfl ?_
    refine w_get (ci := 6) (j := 18) (n' := 12) dX6_isNumber_9 rfl fRX6_235 (Nat.le_of_ble_eq_true rfl) (Nat.le_of_ble_eq_true rfl) rfl rfl ?_
    rw [ps_18]
    refine w_i2l (v := _) (n' := 13) dX6_isNumber_12 rfl rfl ?_
    refine w_iload_n (i := 1) (n' := 14) dX6_isNumber_13 rfl rfl rfl ?_
    refine w_i2l (v := _) (n' := 15) dX6_isNumber_14 rfl rfl ?_
    refine w_iload_n (i := 2) (n' := 16) dX6_isNumber_15 rfl rfl rfl ?_
    refine w_i2l (v := _) (n' := 17) dX6_isNumber_16 rfl rfl ?_
    refine s_E (n' := 20) dX6_isNumber_17 rfl lRX6_51 okX6_isIn stX6_isIn ⟨⟨Nat.le_of_ble_eq_true rfl, Nat.le_of_ble_eq_true rfl⟩, Nat.le_of_ble_eq_true rfl, Nat.le_of_ble_eq_true rfl⟩ (c6_isIn _ lo hi _ _ rfl rfl _) rfl rfl (Nat.le_of_ble_eq_true rfl) ?_
    refine w_if_ne (n' := 23) (tgt := 30) dX6_isNumber_20 rfl rfl (fun h20 => ?_) (fun h20 => ?_)
    · refine w_iconst (v := 1) (n' := 31) dX6_isNumber_30 rfl rfl ?_
      refine w_goto (tgt := 35) dX6_isNumber_31 rfl ?_
      exact w_zret dX6_isNumber_35 rfl rfl ⟨by rw [nmB, decide_eq_true h5, decide_eq_true h20]; rfl, by rw [nmB, decide_eq_true h5, decide_eq_true h20]; rfl⟩
    · refine w_aload_n (i := 0) (n' := 24) dX6_isNumber_23 rfl rfl rfl ?_
      refine v_E (ci := 6) (n' := 27) dX6_isNumber_24 rfl lRX6_248 okX6_fails voX6_fails ⟨⟨Nat.le_of_ble_eq_true rfl, Nat.le_of_ble_eq_true rfl⟩, Nat.le_of_ble_eq_true rfl, Nat.le_of_ble_eq_true rfl⟩ (c6_fails _) rfl rfl (Nat.le_of_ble_eq_true rfl) rfl (Nat.le_of_ble_eq_true rfl) rfl ?_
      rw [ps_16, ps_fail]
      refine w_if_eq (n' := 30) (tgt := 34) dX6_isNumber_27 rfl rfl (fun h27 => ?_) (fun h27 => absurd rfl h27)
      refine w_iconst (v := 0) (n' := 35) dX6_isNumber_34 rfl rfl ?_
      exact w_zret dX6_isNumber_35 rfl rfl ⟨by rw [nmB, decide_eq_true h5, decide_eq_false (fun q => q h20)]; rfl, by rw [nmB, decide_eq_true h5, decide_eq_false (fun q => q h20)]; rfl⟩
