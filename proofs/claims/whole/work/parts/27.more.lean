/-! opinions by sets; years of the parish itself; odds, cuts, counts -/
def opT (m : Mem) (set v : Int32) (i : Nat) : Mem := fun a => if 28 ≤ a ∧ a < 28 + i then upd (m a) 3 (if bitI set (nI (a - 28)) = 0 then m (4 + (a - 28)) 3 else v) else m a
theorem opT_0 (m : Mem) (set v : Int32) : opT m set v 0 = m := by
  funext a
  simp only [opT]
  rw [if_neg (by omega)]
theorem opT_o (m : Mem) (set v : Int32) {i a : Nat} (h : a < 28 ∨ 28 + i ≤ a) : opT m set v i a = m a := by
  simp only [opT]
  rw [if_neg (by omega)]
theorem opT_succ (m : Mem) (set v : Int32) (i : Nat) : up2 (opT m set v i) (28 + i) 3 (if bitI set (nI i) = 0 then m (4 + i) 3 else v) = opT m set v (i + 1) := by
  funext a
  by_cases h : a = 28 + i
  · subst h
    rw [up2_same, opT_o _ _ _ (by omega)]
    simp only [opT]
    rw [if_pos (show 28 ≤ 28 + i ∧ 28 + i < 28 + (i + 1) by omega), show 28 + i - 28 = i by omega]
  · rw [up2_ne _ _ _ h]
    simp only [opT]
    by_cases h2 : 28 ≤ a ∧ a < 28 + i
    · rw [if_pos h2, if_pos (show 28 ≤ a ∧ a < 28 + (i + 1) by omega)]
    · rw [if_neg h2, if_neg (show ¬ (28 ≤ a ∧ a < 28 + (i + 1)) by omega)]
set_option maxHeartbeats 4000000 in
theorem c_tryOpinion {n : Nat} {mem : Mem} (h : PN mem 1 n) (set v : Int32) : CnE mX5_tryOpinion [.ref 0, .int set, .int v] mem none (opT mem set v n) := by
  have h8 := h.2.2
  refine Cn.of (ls := [some (.ref 0), some (.int set), some (.int v), none]) (by decide) rfl (Nat.le_of_ble_eq_true rfl) ?_
  refine w_iconst (v := 0) (n' := 1) dX5_tryOpinion_0 rfl rfl ?_
  refine w_istore_n (i := 3) (n' := 2) (ls' := [_, _, _, _]) dX5_tryOpinion_1 rfl rfl (Nat.le_of_ble_eq_true rfl) rfl rfl ?_
  have L : ∀ (i : Nat) (m1 : Mem), i ≤ n → m1 = opT mem set v i → Wm mX5_tryOpinion (zM mX5_tryOpinion (fun r' m' => r' = none ∧ m' = (opT mem set v n))) 2 [some (.ref 0), some (.int set), some (.int v), some (.int (nI i))] [] m1 := by
    refine for_ind n ?_
    intro i m1 hi h1 ih
    have hp : m1 1 3 = nI n := by rw [h1, opT_o _ _ _ (by omega)]; exact h.2.1
    refine w_iload_n (i := 3) (n' := 3) dX5_tryOpinion_2 rfl rfl rfl ?_
    refine w_aload_n (i := 0) (n' := 4) dX5_tryOpinion_3 rfl rfl rfl ?_
    refine w_get (ci := 5) (j := 0) (n' := 7) dX5_tryOpinion_4 rfl fRX5_10 (Nat.le_of_ble_eq_true rfl) (Nat.le_of_ble_eq_true rfl) rfl rfl ?_
    refine w_get (ci := 1) (j := 3) (n' := 10) dX5_tryOpinion_7 rfl fRX5_172 (Nat.le_of_ble_eq_true rfl) (Nat.le_of_ble_eq_true rfl) rfl rfl ?_
    refine w_icmp_ge (n' := 13) (tgt := 55) dX5_tryOpinion_10 rfl rfl (fun h10 => ?_) (fun h10 => ?_)
    · have hin : i = n := by
        rcases Nat.lt_or_ge i n with c | c
        · exact absurd h10 (by rw [hp]; exact nI_ge (b := n) c (by omega))
        · omega
      subst hin
      exact w_vret dX5_tryOpinion_55 rfl ⟨rfl, h1⟩
    · have hlt : i < n := by
        rcases Nat.lt_or_ge i n with c | c
        · exact c
        · exact absurd (by rw [hp]; exact nI_le (a := n) c (by omega)) h10
      refine w_aload_n (i := 0) (n' := 14) dX5_tryOpinion_13 rfl rfl rfl ?_
      refine w_get (ci := 5) (j := 2) (n' := 17) dX5_tryOpinion_14 rfl fRX5_19 (Nat.le_of_ble_eq_true rfl) (Nat.le_of_ble_eq_true rfl) rfl rfl ?_
      refine w_get (ci := 1) (j := 1) (n' := 20) dX5_tryOpinion_17 rfl fRX5_82 (Nat.le_of_ble_eq_true rfl) (Nat.le_of_ble_eq_true rfl) rfl rfl ?_
      refine w_iload_n (i := 3) (n' := 21) dX5_tryOpinion_20 rfl rfl rfl ?_
      refine w_aaldF (n := i) (n' := 22) dX5_tryOpinion_21 rfl rfl rfl (show i < 8 by omega) ?_
      refine w_iload_n (i := 1) (n' := 23) dX5_tryOpinion_22 rfl rfl rfl ?_
      refine w_iload_n (i := 3) (n' := 24) dX5_tryOpinion_23 rfl rfl rfl ?_
      refine s_E (n' := 27) dX5_tryOpinion_24 rfl lRX5_169 okX5_isIn stX5_isIn ⟨⟨Nat.le_of_ble_eq_true rfl, Nat.le_of_ble_eq_true rfl⟩, Nat.le_of_ble_eq_true rfl, Nat.le_of_ble_eq_true rfl⟩ (c_isIn _ _ _) rfl rfl (Nat.le_of_ble_eq_true rfl) ?_
      refine w_if_eq (n' := 30) (tgt := 34) dX5_tryOpinion_27 rfl rfl (fun h27 => ?_) (fun h27 => ?_)
      · refine w_aload_n (i := 0) (n' := 35) dX5_tryOpinion_34 rfl rfl rfl ?_
        refine w_get (ci := 5) (j := 0) (n' := 38) dX5_tryOpinion_35 rfl fRX5_10 (Nat.le_of_ble_eq_true rfl) (Nat.le_of_ble_eq_true rfl) rfl rfl ?_
        refine w_get (ci := 1) (j := 1) (n' := 41) dX5_tryOpinion_38 rfl fRX5_82 (Nat.le_of_ble_eq_true rfl) (Nat.le_of_ble_eq_true rfl) rfl rfl ?_
        refine w_iload_n (i := 3) (n' := 42) dX5_tryOpinion_41 rfl rfl rfl ?_
        refine w_aaldF (n := i) (n' := 43) dX5_tryOpinion_42 rfl rfl rfl (show i < 8 by omega) ?_
        refine w_get (ci := 0) (j := 3) (n' := 46) dX5_tryOpinion_43 rfl fRX5_187 (Nat.le_of_ble_eq_true rfl) (Nat.le_of_ble_eq_true rfl) (show kd (4 + i) = 0 from (kPa (k := 1) rfl).2.2.1 i (by omega)) rfl ?_
        refine w_put (ci := 0) (j := 3) (n' := 49) dX5_tryOpinion_46 rfl fRX5_187 (Nat.le_of_ble_eq_true rfl) (Nat.le_of_ble_eq_true rfl) rfl rfl (show kd (28 + i) = 0 from (kPa (k := 25) rfl).2.2.1 i (by omega)) rfl ?_
        refine w_iinc (n' := 52) (v := nI (i + 1)) (ls' := [_, _, _, _]) dX5_tryOpinion_49 rfl rfl (nI_1 i) (Nat.le_of_ble_eq_true rfl) rfl rfl ?_
        refine w_goto (tgt := 2) dX5_tryOpinion_52 rfl ?_
        exact ih hlt _ (by rw [h1, ← opT_succ, if_pos h27, opT_o _ _ _ (a := 4 + i) (by omega)])
      · refine w_iload_n (i := 2) (n' := 31) dX5_tryOpinion_30 rfl rfl rfl ?_
        refine w_goto (tgt := 46) dX5_tryOpinion_31 rfl ?_
        refine w_put (ci := 0) (j := 3) (n' := 49) dX5_tryOpinion_46 rfl fRX5_187 (Nat.le_of_ble_eq_true rfl) (Nat.le_of_ble_eq_true rfl) rfl rfl (show kd (28 + i) = 0 from (kPa (k := 25) rfl).2.2.1 i (by omega)) rfl ?_
        refine w_iinc (n' := 52) (v := nI (i + 1)) (ls' := [_, _, _, _]) dX5_tryOpinion_49 rfl rfl (nI_1 i) (Nat.le_of_ble_eq_true rfl) rfl rfl ?_
        refine w_goto (tgt := 2) dX5_tryOpinion_52 rfl ?_
        exact ih hlt _ (by rw [h1, ← opT_succ, if_neg h27])
  exact L 0 _ (Nat.zero_le _) (opT_0 _ _ _).symm
def opF (F : Nat → Nat → Int32) (set v : Int32) : Nat → Nat → Int32 := fun i j => if j = 3 then (if bitI set (nI i) = 0 then F i 3 else v) else F i j
def tellL (m : Mem) (n : Nat) (L set v : Int32) : Int32 := leanC (sumC (opF (FP m 1) set v) L n) (m 2 1) (m 2 2)
/-- a trial parish that differs in opinions alone -/
def TI (mem : Mem) (n : Nat) (s : Mem) : Prop := QS mem s ∧ (∀ i j, i < n → j < 5 → j ≠ 3 → s (28 + i) j = mem (4 + i) j) ∧ (∀ j, j < 3 → s 26 j = mem 2 j) ∧ s 25 3 = nI n
theorem TI.bec {mem m1 : Mem} {n : Nat} (h : PO mem 1 n) (h2 : Same mem m1) : TI mem n (becMem m1 25 1 n) := by
  have h8 := h.2.2.1
  refine ⟨⟨(PO_bec (k := 25) rfl (h2.PO h) (by decide)).2.2.2.2, fun a ha => ?_⟩, fun i j hi hj _ => ?_, fun j hj => ?_, ?_⟩
  · rw [bec_o _ (by omega) h8]
    exact (QS.ofS h2).2 a ha
  · rw [show (28 + i : Nat) = 25 + 3 + i by omega, bec_f m1 (k := 25) (o := 1) h8 (by decide) hi (by omega), show (1 + 3 + i : Nat) = 4 + i by omega, h2.at (isCa_j hj)]
  · rw [bec_w m1 (k := 25) (o := 1) hj, h2.row (k := 2) (by decide)]
  · rw [(bec_k m1 25 1 n).1, h2.row (k := 1) (by decide)]
    exact h.2.1
theorem TI.PN {mem s : Mem} {n : Nat} (h : PO mem 1 n) (h2 : TI mem n s) : PN s 1 n ∧ PN s 25 n := ⟨⟨rfl, by rw [(h2.1.2 1 (by omega)).2 (by decide)]; exact h.2.1, h.2.2.1⟩, ⟨rfl, h2.2.2.2, h.2.2.1⟩⟩
theorem TI.op {mem s : Mem} {n : Nat} (h : PO mem 1 n) (h2 : TI mem n s) (set v : Int32) : TI mem n (opT s set v n) := by
  have h8 := h.2.2.1
  refine ⟨⟨?_, fun a ha => ?_⟩, fun i j hi hj hj3 => ?_, fun j hj => ?_, ?_⟩
  · intro a ha
    simp only [opT]
    by_cases c : 28 ≤ a ∧ a < 28 + n
    · rw [if_pos c]
      simpa [upd] using h2.1.1 a ha
    · rw [if_neg c]
      exact h2.1.1 a ha
  · rw [opT_o _ _ _ (by omega)]
    exact h2.1.2 a ha
  · simp only [opT]
    rw [if_pos (by omega)]
    simp only [upd, hj3, if_false]
    exact h2.2.1 i j hi hj hj3
  · rw [opT_o _ _ _ (by omega)]
    exact h2.2.2.1 j hj
  · rw [opT_o _ _ _ (by omega)]
    exact h2.2.2.2
theorem TI.lean {mem s : Mem} {n : Nat} (h : PO mem 1 n) (h2 : TI mem n s) (L set v : Int32) : leanC (sumC (FP (opT s set v n) 25) L n) (opT s set v n (25 + 1) 1) (opT s set v n (25 + 1) 2) = tellL mem n L set v := by
  have h8 := h.2.2.1
  unfold tellL
  have e1 : opT s set v n (25 + 1) = s 26 := opT_o _ _ _ (by omega)
  rw [e1, h2.2.2.1 1 (by decide), h2.2.2.1 2 (by decide)]
  rw [sumC_congr n (fun i j hi hj => ?_)]
  show opT s set v n (25 + 3 + i) j = _
  simp only [opT, opF, FP]
  rw [if_pos (by omega), show 25 + 3 + i - 28 = i by omega]
  by_cases c : j = 3
  · subst c
    simp only [upd, if_true]
    rw [(h2.1.2 (4 + i) (by omega)).1 3 (by decide) (by decide), show (1 + 3 + i : Nat) = 4 + i by omega]
  · simp only [upd, c, if_false]
    rw [show (25 + 3 + i : Nat) = 28 + i by omega, h2.2.1 i j hi hj c, show (1 + 3 + i : Nat) = 4 + i by omega]
def tellS (W : Nat → Int32) (q : Int32) : Nat → Int32
  | 0 => -1
  | i + 1 => if tellS W q i < 0 then (if W i < q then tellS W q i else nI i) else if bcI (nI i) < bcI (tellS W q i) then (if W i < q then tellS W q i else nI i) else tellS W q i
theorem shl_n : ∀ n, n ≤ 8 → (1 : Int32) <<< (nI n &&& 31) = nI (2 ^ n) := by decide +kernel
theorem pow_le {n : Nat} (h : n ≤ 8) : 2 ^ n ≤ 256 := by
  have : ∀ n, n ≤ 8 → 2 ^ n ≤ 256 := by decide +kernel
  exact this n h
set_option maxHeartbeats 4000000 in
theorem c5_tell {n : Nat} {mem : Mem} (h : PO mem 1 n) (q v : Int32) : CnI mX5_tell [.ref 0, .int q, .int v] mem (fun x m' => ((inR q (-99) 99 = 0 ∨ inR v (-9) 9 = 0) ∧ x = -1000001 ∧ m' = fnd mem 0) ∨ (¬ inR q (-99) 99 = 0 ∧ ¬ inR v (-9) 9 = 0 ∧ ((tellS (fun i => tellL mem n (lbS (DP mem 1) 1000000 n).1 (nI i) v) q (2 ^ n) < 0 ∧ x = -1000004 ∧ (∃ m2, QS mem m2 ∧ m' = fnd m2 3)) ∨ (¬ tellS (fun i => tellL mem n (lbS (DP mem 1) 1000000 n).1 (nI i) v) q (2 ^ n) < 0 ∧ x = tellS (fun i => tellL mem n (lbS (DP mem 1) 1000000 n).1 (nI i) v) q (2 ^ n) ∧ QS mem m')))) := by
  have h8 := h.2.2.1
  have hpw := pow_le h8
  refine Cn.of (ls := [some (.ref 0), some (.int q), some (.int v), none, none, none]) (by decide) rfl (Nat.le_of_ble_eq_true rfl) ?_
  refine w_iload_n (i := 1) (n' := 1) dX5_tell_0 rfl rfl rfl ?_
  refine s_E (n' := 4) dX5_tell_1 rfl lRX5_125 okX5_isQuestion stX5_isQuestion ⟨⟨Nat.le_of_ble_eq_true rfl, Nat.le_of_ble_eq_true rfl⟩, Nat.le_of_ble_eq_true rfl, Nat.le_of_ble_eq_true rfl⟩ (c_isQuestion _ _) rfl rfl (Nat.le_of_ble_eq_true rfl) ?_
  refine w_if_eq (n' := 7) (tgt := 15) dX5_tell_4 rfl rfl (fun h4 => ?_) (fun h4 => ?_)
  · refine w_aload_n (i := 0) (n' := 16) dX5_tell_15 rfl rfl rfl ?_
    refine w_iconst (v := 0) (n' := 17) dX5_tell_16 rfl rfl ?_
    refine v_E (ci := 5) (n' := 20) dX5_tell_17 rfl lRX5_57 okX5_finding voX5_finding ⟨⟨Nat.le_of_ble_eq_true rfl, Nat.le_of_ble_eq_true rfl⟩, Nat.le_of_ble_eq_true rfl, Nat.le_of_ble_eq_true rfl⟩ (c_finding 0 _ (by decide) (by decide) _) rfl rfl (Nat.le_of_ble_eq_true rfl) rfl (Nat.le_of_ble_eq_true rfl) rfl ?_
    exact w_iret dX5_tell_20 rfl ⟨_, rfl, Or.inl ⟨Or.inl h4, rfl, rfl⟩⟩
  · refine w_iconst (v := 3) (n' := 8) dX5_tell_7 rfl rfl ?_
    refine w_iload_n (i := 2) (n' := 9) dX5_tell_8 rfl rfl rfl ?_
    refine s_E (n' := 12) dX5_tell_9 rfl lRX5_64 okX0_mayBe stX0_mayBe ⟨⟨Nat.le_of_ble_eq_true rfl, Nat.le_of_ble_eq_true rfl⟩, Nat.le_of_ble_eq_true rfl, Nat.le_of_ble_eq_true rfl⟩ (c_may3 _ _) rfl rfl (Nat.le_of_ble_eq_true rfl) ?_
    refine w_if_ne (n' := 15) (tgt := 21) dX5_tell_12 rfl rfl (fun h12 => ?_) (fun h12 => ?_)
    · refine w_aload_n (i := 0) (n' := 22) dX5_tell_21 rfl rfl rfl ?_
      refine w_get (ci := 5) (j := 2) (n' := 25) dX5_tell_22 rfl fRX5_19 (Nat.le_of_ble_eq_true rfl) (Nat.le_of_ble_eq_true rfl) rfl rfl ?_
      refine w_aload_n (i := 0) (n' := 26) dX5_tell_25 rfl rfl rfl ?_
      refine w_get (ci := 5) (j := 0) (n' := 29) dX5_tell_26 rfl fRX5_10 (Nat.le_of_ble_eq_true rfl) (Nat.le_of_ble_eq_true rfl) rfl rfl ?_
      refine v_E (ci := 1) (n' := 32) dX5_tell_29 rfl lRX5_151 okX1_becomes voX1_becomes ⟨⟨Nat.le_of_ble_eq_true rfl, Nat.le_of_ble_eq_true rfl⟩, Nat.le_of_ble_eq_true rfl, Nat.le_of_ble_eq_true rfl⟩ (c_becomes (k := 25) rfl h.N (by decide)) rfl rfl (Nat.le_of_ble_eq_true rfl) rfl (Nat.le_of_ble_eq_true rfl) rfl ?_
      have hM1 : PO (becMem mem 25 1 n) 1 n := PO_of h (by rw [bec_o _ (by omega) h8]) (by rw [bec_o _ (by omega) h8]) (PO_bec (k := 25) rfl h (by decide)).2.2.2.2
      refine w_aload_n (i := 0) (n' := 33) dX5_tell_32 rfl rfl rfl ?_
      refine w_get (ci := 5) (j := 0) (n' := 36) dX5_tell_33 rfl fRX5_10 (Nat.le_of_ble_eq_true rfl) (Nat.le_of_ble_eq_true rfl) rfl rfl ?_
      refine v_I (ci := 1) (n' := 39) dX5_tell_36 rfl lRX5_110 okX1_latest voX1_latest ⟨⟨Nat.le_of_ble_eq_true rfl, Nat.le_of_ble_eq_true rfl⟩, Nat.le_of_ble_eq_true rfl, Nat.le_of_ble_eq_true rfl⟩ (c_latest hM1) rfl rfl (Nat.le_of_ble_eq_true rfl) rfl (Nat.le_of_ble_eq_true rfl) rfl (fun x36 m36 q36 => ?_)
      have hD : DP (becMem mem 25 1 n) 1 = DP mem 1 ∨ True := Or.inr trivial
      have hL : x36 = (lbS (DP mem 1) 1000000 n).1 := by
        rw [q36.1, lbS_congr n (fun i hi => ?_)]
        unfold DP
        rw [bec_o _ (by omega) h8, bec_o _ (by omega) h8]
      have hT0 : TI mem n m36 := by
        have b := TI.bec h (Same.rf h.2.2.2.2)
        refine ⟨QS.up q36.2 b.1, fun i j hi hj hj3 => ?_, fun j hj => ?_, ?_⟩
        · rw [q36.2.at (isCa_j hj)]; exact b.2.1 i j hi hj hj3
        · rw [q36.2.row (k := 26) (by decide)]; exact b.2.2.1 j hj
        · rw [q36.2.row (k := 25) (by decide)]; exact b.2.2.2
      rw [hL]
      refine w_istore_n (i := 3) (n' := 40) (ls' := [_, _, _, _, _, _]) dX5_tell_39 rfl rfl (Nat.le_of_ble_eq_true rfl) rfl rfl ?_
      refine w_iconst (v := -1) (n' := 41) dX5_tell_40 rfl rfl ?_
      refine w_istore (n' := 43) (ls' := [_, _, _, _, _, _]) dX5_tell_41 rfl (Nat.le_of_ble_eq_true rfl) rfl rfl ?_
      refine w_iconst (v := 0) (n' := 44) dX5_tell_43 rfl rfl ?_
      refine w_istore (n' := 46) (ls' := [_, _, _, _, _, _]) dX5_tell_44 rfl (Nat.le_of_ble_eq_true rfl) rfl rfl ?_
      have L : ∀ (i : Nat) (s : Int32 × Mem), i ≤ 2 ^ n → (s.1 = tellS (fun i => tellL mem n (lbS (DP mem 1) 1000000 n).1 (nI i) v) q i ∧ TI mem n s.2) → Wm mX5_tell (zM mX5_tell (fun r m' => ∃ x, r = some (.int x) ∧ (fun x m' => ((inR q (-99) 99 = 0 ∨ inR v (-9) 9 = 0) ∧ x = -1000001 ∧ m' = fnd mem 0) ∨ (¬ inR q (-99) 99 = 0 ∧ ¬ inR v (-9) 9 = 0 ∧ ((tellS (fun i => tellL mem n (lbS (DP mem 1) 1000000 n).1 (nI i) v) q (2 ^ n) < 0 ∧ x = -1000004 ∧ (∃ m2, QS mem m2 ∧ m' = fnd m2 3)) ∨ (¬ tellS (fun i => tellL mem n (lbS (DP mem 1) 1000000 n).1 (nI i) v) q (2 ^ n) < 0 ∧ x = tellS (fun i => tellL mem n (lbS (DP mem 1) 1000000 n).1 (nI i) v) q (2 ^ n) ∧ QS mem m')))) x m')) 46 [some (.ref 0), some (.int q), some (.int v), some (.int (lbS (DP mem 1) 1000000 n).1), some (.int s.1), some (.int (nI i))] [] s.2 := by
        refine for_ind (2 ^ n) ?_
        rintro i ⟨b, m1⟩ hi ⟨h1, h2⟩ ih
        dsimp only at h1 h2 ih ⊢
        have hp := TI.PN h h2
        refine w_iload (n' := 48) dX5_tell_46 rfl rfl ?_
        refine w_iconst (v := 1) (n' := 49) dX5_tell_48 rfl rfl ?_
        refine w_aload_n (i := 0) (n' := 50) dX5_tell_49 rfl rfl rfl ?_
        refine w_get (ci := 5) (j := 0) (n' := 53) dX5_tell_50 rfl fRX5_10 (Nat.le_of_ble_eq_true rfl) (Nat.le_of_ble_eq_true rfl) rfl rfl ?_
        refine w_get (ci := 1) (j := 3) (n' := 56) dX5_tell_53 rfl fRX5_172 (Nat.le_of_ble_eq_true rfl) (Nat.le_of_ble_eq_true rfl) rfl rfl ?_
        refine w_ishl (n' := 57) dX5_tell_56 rfl ?_
        refine w_icmp_ge (n' := 60) (tgt := 110) dX5_tell_57 rfl rfl (fun h57 => ?_) (fun h57 => ?_)
        · have hin : i = (2 ^ n) := by
            rcases Nat.lt_or_ge i (2 ^ n) with c | c
            · exact absurd h57 (by rw [hp.1.2.1, shl_n n h8]; exact nI_ge (b := (2 ^ n)) c (by omega))
            · omega
          refine w_iload (n' := 112) dX5_tell_110 rfl rfl ?_
          refine w_if_lt (n' := 115) (tgt := 120) dX5_tell_112 rfl rfl (fun h112 => ?_) (fun h112 => ?_)
          · rw [hin] at h1
            refine w_aload_n (i := 0) (n' := 121) dX5_tell_120 rfl rfl rfl ?_
            refine w_iconst (v := 3) (n' := 122) dX5_tell_121 rfl rfl ?_
            refine v_E (ci := 5) (n' := 125) dX5_tell_122 rfl lRX5_57 okX5_finding voX5_finding ⟨⟨Nat.le_of_ble_eq_true rfl, Nat.le_of_ble_eq_true rfl⟩, Nat.le_of_ble_eq_true rfl, Nat.le_of_ble_eq_true rfl⟩ (c_finding 3 _ (by decide) (by decide) _) rfl rfl (Nat.le_of_ble_eq_true rfl) rfl (Nat.le_of_ble_eq_true rfl) rfl ?_
            exact w_iret dX5_tell_125 rfl ⟨_, rfl, Or.inr ⟨h4, h12, Or.inl ⟨by rw [← h1]; exact h112, rfl, _, h2.1, rfl⟩⟩⟩
          · rw [hin] at h1
            refine w_iload (n' := 117) dX5_tell_115 rfl rfl ?_
            refine w_goto (tgt := 125) dX5_tell_117 rfl ?_
            exact w_iret dX5_tell_125 rfl ⟨_, rfl, Or.inr ⟨h4, h12, Or.inr ⟨by rw [← h1]; exact h112, h1, h2.1⟩⟩⟩
        · have hlt : i < (2 ^ n) := by
            rcases Nat.lt_or_ge i (2 ^ n) with c | c
            · exact c
            · exact absurd (by rw [hp.1.2.1, shl_n n h8]; exact nI_le (a := (2 ^ n)) c (by omega)) h57
          refine w_iload (n' := 62) dX5_tell_60 rfl rfl ?_
          refine w_if_lt (n' := 65) (tgt := 81) dX5_tell_62 rfl rfl (fun h62 => ?_) (fun h62 => ?_)
          · refine w_aload_n (i := 0) (n' := 82) dX5_tell_81 rfl rfl rfl ?_
            refine w_iload (n' := 84) dX5_tell_82 rfl rfl ?_
            refine w_iload_n (i := 2) (n' := 85) dX5_tell_84 rfl rfl rfl ?_
            refine v_E (ci := 5) (n' := 88) dX5_tell_85 rfl lRX5_181 okX5_tryOpinion voX5_tryOpinion ⟨⟨Nat.le_of_ble_eq_true rfl, Nat.le_of_ble_eq_true rfl⟩, Nat.le_of_ble_eq_true rfl, Nat.le_of_ble_eq_true rfl⟩ (c_tryOpinion hp.1 _ _) rfl rfl (Nat.le_of_ble_eq_true rfl) rfl (Nat.le_of_ble_eq_true rfl) rfl ?_
            refine w_aload_n (i := 0) (n' := 89) dX5_tell_88 rfl rfl rfl ?_
            refine w_get (ci := 5) (j := 2) (n' := 92) dX5_tell_89 rfl fRX5_19 (Nat.le_of_ble_eq_true rfl) (Nat.le_of_ble_eq_true rfl) rfl rfl ?_
            refine w_iload_n (i := 3) (n' := 93) dX5_tell_92 rfl rfl rfl ?_
            refine v_E (ci := 1) (n' := 96) dX5_tell_93 rfl lRX5_184 okX1_leanBy voX1_leanBy ⟨⟨Nat.le_of_ble_eq_true rfl, Nat.le_of_ble_eq_true rfl⟩, Nat.le_of_ble_eq_true rfl, Nat.le_of_ble_eq_true rfl⟩ (c_leanBy (TI.PN h (TI.op h h2 _ _)).2 _) rfl rfl (Nat.le_of_ble_eq_true rfl) rfl (Nat.le_of_ble_eq_true rfl) rfl ?_
            rw [TI.lean h h2]
            refine w_iload_n (i := 1) (n' := 97) dX5_tell_96 rfl rfl rfl ?_
            refine w_icmp_lt (n' := 100) (tgt := 104) dX5_tell_97 rfl rfl (fun h97 => ?_) (fun h97 => ?_)
            · refine w_iinc (n' := 107) (v := nI (i + 1)) (ls' := [_, _, _, _, _, _]) dX5_tell_104 rfl rfl (nI_1 i) (Nat.le_of_ble_eq_true rfl) rfl rfl ?_
              refine w_goto (tgt := 46) dX5_tell_107 rfl ?_
              exact ih hlt (_, _) ⟨by show _ = tellS _ _ (i + 1); rw [tellS, ← h1, if_pos h62, if_pos h97], TI.op h h2 _ _⟩
            · refine w_iload (n' := 102) dX5_tell_100 rfl rfl ?_
              refine w_istore (n' := 104) (ls' := [_, _, _, _, _, _]) dX5_tell_102 rfl (Nat.le_of_ble_eq_true rfl) rfl rfl ?_
              refine w_iinc (n' := 107) (v := nI (i + 1)) (ls' := [_, _, _, _, _, _]) dX5_tell_104 rfl rfl (nI_1 i) (Nat.le_of_ble_eq_true rfl) rfl rfl ?_
              refine w_goto (tgt := 46) dX5_tell_107 rfl ?_
              exact ih hlt (_, _) ⟨by show _ = tellS _ _ (i + 1); rw [tellS, ← h1, if_pos h62, if_neg h97]; try rfl, TI.op h h2 _ _⟩
          · refine w_iload (n' := 67) dX5_tell_65 rfl rfl ?_
            refine s_E (n' := 70) dX5_tell_67 rfl lRX5_158 okJ6_bitCount_0f7a4 stJ6_bitCount_0f7a4 ⟨⟨Nat.le_of_ble_eq_true rfl, Nat.le_of_ble_eq_true rfl⟩, Nat.le_of_ble_eq_true rfl, Nat.le_of_ble_eq_true rfl⟩ (c_bitCount _ _) rfl rfl (Nat.le_of_ble_eq_true rfl) ?_
            refine w_iload (n' := 72) dX5_tell_70 rfl rfl ?_
            refine s_E (n' := 75) dX5_tell_72 rfl lRX5_158 okJ6_bitCount_0f7a4 stJ6_bitCount_0f7a4 ⟨⟨Nat.le_of_ble_eq_true rfl, Nat.le_of_ble_eq_true rfl⟩, Nat.le_of_ble_eq_true rfl, Nat.le_of_ble_eq_true rfl⟩ (c_bitCount _ _) rfl rfl (Nat.le_of_ble_eq_true rfl) ?_
            refine w_icmp_lt (n' := 78) (tgt := 81) dX5_tell_75 rfl rfl (fun h75 => ?_) (fun h75 => ?_)
            · refine w_aload_n (i := 0) (n' := 82) dX5_tell_81 rfl rfl rfl ?_
              refine w_iload (n' := 84) dX5_tell_82 rfl rfl ?_
              refine w_iload_n (i := 2) (n' := 85) dX5_tell_84 rfl rfl rfl ?_
              refine v_E (ci := 5) (n' := 88) dX5_tell_85 rfl lRX5_181 okX5_tryOpinion voX5_tryOpinion ⟨⟨Nat.le_of_ble_eq_true rfl, Nat.le_of_ble_eq_true rfl⟩, Nat.le_of_ble_eq_true rfl, Nat.le_of_ble_eq_true rfl⟩ (c_tryOpinion hp.1 _ _) rfl rfl (Nat.le_of_ble_eq_true rfl) rfl (Nat.le_of_ble_eq_true rfl) rfl ?_
              refine w_aload_n (i := 0) (n' := 89) dX5_tell_88 rfl rfl rfl ?_
              refine w_get (ci := 5) (j := 2) (n' := 92) dX5_tell_89 rfl fRX5_19 (Nat.le_of_ble_eq_true rfl) (Nat.le_of_ble_eq_true rfl) rfl rfl ?_
              refine w_iload_n (i := 3) (n' := 93) dX5_tell_92 rfl rfl rfl ?_
              refine v_E (ci := 1) (n' := 96) dX5_tell_93 rfl lRX5_184 okX1_leanBy voX1_leanBy ⟨⟨Nat.le_of_ble_eq_true rfl, Nat.le_of_ble_eq_true rfl⟩, Nat.le_of_ble_eq_true rfl, Nat.le_of_ble_eq_true rfl⟩ (c_leanBy (TI.PN h (TI.op h h2 _ _)).2 _) rfl rfl (Nat.le_of_ble_eq_true rfl) rfl (Nat.le_of_ble_eq_true rfl) rfl ?_
              rw [TI.lean h h2]
              refine w_iload_n (i := 1) (n' := 97) dX5_tell_96 rfl rfl rfl ?_
              refine w_icmp_lt (n' := 100) (tgt := 104) dX5_tell_97 rfl rfl (fun h97 => ?_) (fun h97 => ?_)
              · refine w_iinc (n' := 107) (v := nI (i + 1)) (ls' := [_, _, _, _, _, _]) dX5_tell_104 rfl rfl (nI_1 i) (Nat.le_of_ble_eq_true rfl) rfl rfl ?_
                refine w_goto (tgt := 46) dX5_tell_107 rfl ?_
                exact ih hlt (_, _) ⟨by show _ = tellS _ _ (i + 1); rw [tellS, ← h1, if_neg h62, if_pos h75, if_pos h97], TI.op h h2 _ _⟩
              · refine w_iload (n' := 102) dX5_tell_100 rfl rfl ?_
                refine w_istore (n' := 104) (ls' := [_, _, _, _, _, _]) dX5_tell_102 rfl (Nat.le_of_ble_eq_true rfl) rfl rfl ?_
                refine w_iinc (n' := 107) (v := nI (i + 1)) (ls' := [_, _, _, _, _, _]) dX5_tell_104 rfl rfl (nI_1 i) (Nat.le_of_ble_eq_true rfl) rfl rfl ?_
                refine w_goto (tgt := 46) dX5_tell_107 rfl ?_
                exact ih hlt (_, _) ⟨by show _ = tellS _ _ (i + 1); rw [tellS, ← h1, if_neg h62, if_pos h75, if_neg h97]; try rfl, TI.op h h2 _ _⟩
            · refine w_goto (tgt := 104) dX5_tell_78 rfl ?_
              refine w_iinc (n' := 107) (v := nI (i + 1)) (ls' := [_, _, _, _, _, _]) dX5_tell_104 rfl rfl (nI_1 i) (Nat.le_of_ble_eq_true rfl) rfl rfl ?_
              refine w_goto (tgt := 46) dX5_tell_107 rfl ?_
              exact ih hlt (_, _) ⟨by show _ = tellS _ _ (i + 1); rw [tellS, ← h1, if_neg h62, if_neg h75], h2⟩
      exact L 0 (-1, _) (Nat.zero_le _) ⟨rfl, hT0⟩
    · refine w_aload_n (i := 0) (n' := 16) dX5_tell_15 rfl rfl rfl ?_
      refine w_iconst (v := 0) (n' := 17) dX5_tell_16 rfl rfl ?_
      refine v_E (ci := 5) (n' := 20) dX5_tell_17 rfl lRX5_57 okX5_finding voX5_finding ⟨⟨Nat.le_of_ble_eq_true rfl, Nat.le_of_ble_eq_true rfl⟩, Nat.le_of_ble_eq_true rfl, Nat.le_of_ble_eq_true rfl⟩ (c_finding 0 _ (by decide) (by decide) _) rfl rfl (Nat.le_of_ble_eq_true rfl) rfl (Nat.le_of_ble_eq_true rfl) rfl ?_
      exact w_iret dX5_tell_20 rfl ⟨_, rfl, Or.inl ⟨Or.inr (by simpa using h12), rfl, rfl⟩⟩
def voiS (W : Nat → Int32) : Nat → Int32 × Int32
  | 0 => (0, -1)
  | i + 1 => if W i ≤ (voiS W i).2 then voiS W i else (nI i, W i)
set_option maxHeartbeats 4000000 in
theorem c5_voice {n : Nat} {mem : Mem} (h : PO mem 1 n) : CnI mX5_voice [.ref 0] mem (fun x m' => (n = 0 ∧ x = -1000004 ∧ m' = fnd mem 3) ∨ (0 < n ∧ x = (voiS (fun i => absI (tellL mem n (lbS (DP mem 1) 1000000 n).1 ((1 : Int32) <<< (nI i &&& 31)) 0 - leanM mem 1 n)) n).1 ∧ QS mem m')) := by
  have h8 := h.2.2.1
  refine Cn.of (ls := [some (.ref 0), none, none, none, none, none, none]) (by decide) rfl (Nat.le_of_ble_eq_true rfl) ?_
  refine w_aload_n (i := 0) (n' := 1) dX5_voice_0 rfl rfl rfl ?_
  refine w_get (ci := 5) (j := 0) (n' := 4) dX5_voice_1 rfl fRX5_10 (Nat.le_of_ble_eq_true rfl) (Nat.le_of_ble_eq_true rfl) rfl rfl ?_
  refine w_get (ci := 1) (j := 3) (n' := 7) dX5_voice_4 rfl fRX5_172 (Nat.le_of_ble_eq_true rfl) (Nat.le_of_ble_eq_true rfl) rfl rfl ?_
  refine w_if_ne (n' := 10) (tgt := 16) dX5_voice_7 rfl rfl (fun h7 => ?_) (fun h7 => ?_)
  · have h0 : 0 < n := by
      rcases Nat.eq_zero_or_pos n with c | c
      · exact absurd (by rw [h.2.1, c]; rfl) h7
      · exact c
    refine w_aload_n (i := 0) (n' := 17) dX5_voice_16 rfl rfl rfl ?_
    refine w_get (ci := 5) (j := 0) (n' := 20) dX5_voice_17 rfl fRX5_10 (Nat.le_of_ble_eq_true rfl) (Nat.le_of_ble_eq_true rfl) rfl rfl ?_
    refine v_I (ci := 1) (n' := 23) dX5_voice_20 rfl lRX5_110 okX1_latest voX1_latest ⟨⟨Nat.le_of_ble_eq_true rfl, Nat.le_of_ble_eq_true rfl⟩, Nat.le_of_ble_eq_true rfl, Nat.le_of_ble_eq_true rfl⟩ (c_latest h) rfl rfl (Nat.le_of_ble_eq_true rfl) rfl (Nat.le_of_ble_eq_true rfl) rfl (fun x20 m20 q20 => ?_)
    have hz := q20.2.PO h
    rw [q20.1]
    refine w_istore_n (i := 1) (n' := 24) (ls' := [_, _, _, _, _, _, _]) dX5_voice_23 rfl rfl (Nat.le_of_ble_eq_true rfl) rfl rfl ?_
    refine w_aload_n (i := 0) (n' := 25) dX5_voice_24 rfl rfl rfl ?_
    refine w_get (ci := 5) (j := 0) (n' := 28) dX5_voice_25 rfl fRX5_10 (Nat.le_of_ble_eq_true rfl) (Nat.le_of_ble_eq_true rfl) rfl rfl ?_
    refine w_iload_n (i := 1) (n' := 29) dX5_voice_28 rfl rfl rfl ?_
    refine v_E (ci := 1) (n' := 32) dX5_voice_29 rfl lRX5_184 okX1_leanBy voX1_leanBy ⟨⟨Nat.le_of_ble_eq_true rfl, Nat.le_of_ble_eq_true rfl⟩, Nat.le_of_ble_eq_true rfl, Nat.le_of_ble_eq_true rfl⟩ (c_leanBy hz.N _) rfl rfl (Nat.le_of_ble_eq_true rfl) rfl (Nat.le_of_ble_eq_true rfl) rfl ?_
    rw [q20.2.sumC, q20.2.row (k := 1 + 1) (by decide)]
    show Wm _ _ 32 _ [.int (leanM mem 1 n)] _
    refine w_istore_n (i := 2) (n' := 33) (ls' := [_, _, _, _, _, _, _]) dX5_voice_32 rfl rfl (Nat.le_of_ble_eq_true rfl) rfl rfl ?_
    refine w_aload_n (i := 0) (n' := 34) dX5_voice_33 rfl rfl rfl ?_
    refine w_get (ci := 5) (j := 2) (n' := 37) dX5_voice_34 rfl fRX5_19 (Nat.le_of_ble_eq_true rfl) (Nat.le_of_ble_eq_true rfl) rfl rfl ?_
    refine w_aload_n (i := 0) (n' := 38) dX5_voice_37 rfl rfl rfl ?_
    refine w_get (ci := 5) (j := 0) (n' := 41) dX5_voice_38 rfl fRX5_10 (Nat.le_of_ble_eq_true rfl) (Nat.le_of_ble_eq_true rfl) rfl rfl ?_
    refine v_E (ci := 1) (n' := 44) dX5_voice_41 rfl lRX5_151 okX1_becomes voX1_becomes ⟨⟨Nat.le_of_ble_eq_true rfl, Nat.le_of_ble_eq_true rfl⟩, Nat.le_of_ble_eq_true rfl, Nat.le_of_ble_eq_true rfl⟩ (c_becomes (k := 25) rfl hz.N (by decide)) rfl rfl (Nat.le_of_ble_eq_true rfl) rfl (Nat.le_of_ble_eq_true rfl) rfl ?_
    refine w_iconst (v := 0) (n' := 45) dX5_voice_44 rfl rfl ?_
    refine w_istore_n (i := 3) (n' := 46) (ls' := [_, _, _, _, _, _, _]) dX5_voice_45 rfl rfl (Nat.le_of_ble_eq_true rfl) rfl rfl ?_
    refine w_iconst (v := -1) (n' := 47) dX5_voice_46 rfl rfl ?_
    refine w_istore (n' := 49) (ls' := [_, _, _, _, _, _, _]) dX5_voice_47 rfl (Nat.le_of_ble_eq_true rfl) rfl rfl ?_
    refine w_iconst (v := 0) (n' := 50) dX5_voice_49 rfl rfl ?_
    refine w_istore (n' := 52) (ls' := [_, _, _, _, _, _, _]) dX5_voice_50 rfl (Nat.le_of_ble_eq_true rfl) rfl rfl ?_
    have L : ∀ (i : Nat) (s : (Int32 × Int32) × Option Value × Mem), i ≤ n → (s.1 = voiS (fun i => absI (tellL mem n (lbS (DP mem 1) 1000000 n).1 ((1 : Int32) <<< (nI i &&& 31)) 0 - leanM mem 1 n)) i ∧ TI mem n s.2.2) → Wm mX5_voice (zM mX5_voice (fun r m' => ∃ x, r = some (.int x) ∧ (fun x m' => (n = 0 ∧ x = -1000004 ∧ m' = fnd mem 3) ∨ (0 < n ∧ x = (voiS (fun i => absI (tellL mem n (lbS (DP mem 1) 1000000 n).1 ((1 : Int32) <<< (nI i &&& 31)) 0 - leanM mem 1 n)) n).1 ∧ QS mem m')) x m')) 52 [some (.ref 0), some (.int (lbS (DP mem 1) 1000000 n).1), some (.int (leanM mem 1 n)), some (.int s.1.1), some (.int s.1.2), some (.int (nI i)), s.2.1] [] s.2.2 := by
      refine for_ind n ?_
      rintro i ⟨⟨b, w⟩, lx, m1⟩ hi ⟨h1, h2⟩ ih
      dsimp only at h1 h2 ih ⊢
      have hp := TI.PN h h2
      have e2 : w = (voiS (fun i => absI (tellL mem n (lbS (DP mem 1) 1000000 n).1 ((1 : Int32) <<< (nI i &&& 31)) 0 - leanM mem 1 n)) i).2 := by rw [← h1]
      refine w_iload (n' := 54) dX5_voice_52 rfl rfl ?_
      refine w_aload_n (i := 0) (n' := 55) dX5_voice_54 rfl rfl rfl ?_
      refine w_get (ci := 5) (j := 0) (n' := 58) dX5_voice_55 rfl fRX5_10 (Nat.le_of_ble_eq_true rfl) (Nat.le_of_ble_eq_true rfl) rfl rfl ?_
      refine w_get (ci := 1) (j := 3) (n' := 61) dX5_voice_58 rfl fRX5_172 (Nat.le_of_ble_eq_true rfl) (Nat.le_of_ble_eq_true rfl) rfl rfl ?_
      refine w_icmp_ge (n' := 64) (tgt := 108) dX5_voice_61 rfl rfl (fun h61 => ?_) (fun h61 => ?_)
      · have hin : i = n := by
          rcases Nat.lt_or_ge i n with c | c
          · exact absurd h61 (by rw [hp.1.2.1]; exact nI_ge (b := n) c (by omega))
          · omega
        subst hin
        refine w_iload_n (i := 3) (n' := 109) dX5_voice_108 rfl rfl rfl ?_
        exact w_iret dX5_voice_109 rfl ⟨_, rfl, Or.inr ⟨h0, by rw [← h1], h2.1⟩⟩
      · have hlt : i < n := by
          rcases Nat.lt_or_ge i n with c | c
          · exact c
          · exact absurd (by rw [hp.1.2.1]; exact nI_le (a := n) c (by omega)) h61
        refine w_aload_n (i := 0) (n' := 65) dX5_voice_64 rfl rfl rfl ?_
        refine w_iconst (v := 1) (n' := 66) dX5_voice_65 rfl rfl ?_
        refine w_iload (n' := 68) dX5_voice_66 rfl rfl ?_
        refine w_ishl (n' := 69) dX5_voice_68 rfl ?_
        refine w_iconst (v := 0) (n' := 70) dX5_voice_69 rfl rfl ?_
        refine v_E (ci := 5) (n' := 73) dX5_voice_70 rfl lRX5_181 okX5_tryOpinion voX5_tryOpinion ⟨⟨Nat.le_of_ble_eq_true rfl, Nat.le_of_ble_eq_true rfl⟩, Nat.le_of_ble_eq_true rfl, Nat.le_of_ble_eq_true rfl⟩ (c_tryOpinion hp.1 _ _) rfl rfl (Nat.le_of_ble_eq_true rfl) rfl (Nat.le_of_ble_eq_true rfl) rfl ?_
        refine w_aload_n (i := 0) (n' := 74) dX5_voice_73 rfl rfl rfl ?_
        refine w_get (ci := 5) (j := 2) (n' := 77) dX5_voice_74 rfl fRX5_19 (Nat.le_of_ble_eq_true rfl) (Nat.le_of_ble_eq_true rfl) rfl rfl ?_
        refine w_iload_n (i := 1) (n' := 78) dX5_voice_77 rfl rfl rfl ?_
        refine v_E (ci := 1) (n' := 81) dX5_voice_78 rfl lRX5_184 okX1_leanBy voX1_leanBy ⟨⟨Nat.le_of_ble_eq_true rfl, Nat.le_of_ble_eq_true rfl⟩, Nat.le_of_ble_eq_true rfl, Nat.le_of_ble_eq_true rfl⟩ (c_leanBy (TI.PN h (TI.op h h2 _ _)).2 _) rfl rfl (Nat.le_of_ble_eq_true rfl) rfl (Nat.le_of_ble_eq_true rfl) rfl ?_
        rw [TI.lean h h2]
        refine w_iload_n (i := 2) (n' := 82) dX5_voice_81 rfl rfl rfl ?_
        refine w_isub (n' := 83) dX5_voice_82 rfl ?_
        refine w_abs (n' := 86) dX5_voice_83 rfl lRX5_190 ⟨Nat.le_of_ble_eq_true rfl, Nat.le_of_ble_eq_true rfl, Nat.le_of_ble_eq_true rfl, Nat.le_of_ble_eq_true rfl⟩ ?_
        refine w_istore (n' := 88) (ls' := [_, _, _, _, _, _, _]) dX5_voice_86 rfl (Nat.le_of_ble_eq_true rfl) rfl rfl ?_
        refine w_iload (n' := 90) dX5_voice_88 rfl rfl ?_
        refine w_iload (n' := 92) dX5_voice_90 rfl rfl ?_
        refine w_icmp_le (n' := 95) (tgt := 102) dX5_voice_92 rfl rfl (fun h92 => ?_) (fun h92 => ?_)
        · refine w_iinc (n' := 105) (v := nI (i + 1)) (ls' := [_, _, _, _, _, _, _]) dX5_voice_102 rfl rfl (nI_1 i) (Nat.le_of_ble_eq_true rfl) rfl rfl ?_
          refine w_goto (tgt := 52) dX5_voice_105 rfl ?_
          exact ih hlt ((_, _), _, _) ⟨by show _ = voiS _ (i + 1); rw [voiS, ← e2, if_pos h92, ← h1], TI.op h h2 _ _⟩
        · refine w_iload (n' := 97) dX5_voice_95 rfl rfl ?_
          refine w_istore (n' := 99) (ls' := [_, _, _, _, _, _, _]) dX5_voice_97 rfl (Nat.le_of_ble_eq_true rfl) rfl rfl ?_
          refine w_iload (n' := 101) dX5_voice_99 rfl rfl ?_
          refine w_istore_n (i := 3) (n' := 102) (ls' := [_, _, _, _, _, _, _]) dX5_voice_101 rfl rfl (Nat.le_of_ble_eq_true rfl) rfl rfl ?_
          refine w_iinc (n' := 105) (v := nI (i + 1)) (ls' := [_, _, _, _, _, _, _]) dX5_voice_102 rfl rfl (nI_1 i) (Nat.le_of_ble_eq_true rfl) rfl rfl ?_
          refine w_goto (tgt := 52) dX5_voice_105 rfl ?_
          exact ih hlt ((_, _), _, _) ⟨by show _ = voiS _ (i + 1); rw [voiS, ← e2, if_neg h92]; try rfl, TI.op h h2 _ _⟩
    exact L 0 ((0, -1), _, _) (Nat.zero_le _) ⟨rfl, TI.bec h q20.2⟩
  · have h0 : n = 0 := by
      rcases Nat.eq_zero_or_pos n with c | c
      · exact c
      · exact absurd h7 (by rw [h.2.1]; exact nI_ne0 c (by omega))
    refine w_aload_n (i := 0) (n' := 11) dX5_voice_10 rfl rfl rfl ?_
    refine w_iconst (v := 3) (n' := 12) dX5_voice_11 rfl rfl ?_
    refine v_E (ci := 5) (n' := 15) dX5_voice_12 rfl lRX5_57 okX5_finding voX5_finding ⟨⟨Nat.le_of_ble_eq_true rfl, Nat.le_of_ble_eq_true rfl⟩, Nat.le_of_ble_eq_true rfl, Nat.le_of_ble_eq_true rfl⟩ (c_finding 3 _ (by decide) (by decide) _) rfl rfl (Nat.le_of_ble_eq_true rfl) rfl (Nat.le_of_ble_eq_true rfl) rfl ?_
    exact w_iret dX5_voice_15 rfl ⟨_, rfl, Or.inl ⟨h0, rfl, rfl⟩⟩
