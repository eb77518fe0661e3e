/-! sheets -/
theorem kSh0 : ∀ k, k < 62 → kd k = 2 → kd (k + 1) = 10 ∧ al (k + 1) = 40 := by decide +kernel
theorem kSh {k : Nat} (h : kd k = 2) : kd (k + 1) = 10 ∧ al (k + 1) = 40 := kSh0 k (kd_lt h (by omega)) h
theorem kS4 : ∀ s, s < 4 → kd (40 + 1 + 2 * s) = 2 := by decide +kernel
def zer (f : Nat → Int32) (i : Nat) : Nat → Int32 := fun j => if j < i then 0 else f j
theorem zer_0 (f : Nat → Int32) : zer f 0 = f := by funext j; simp [zer]
theorem zer_succ (f : Nat → Int32) (i : Nat) : upd (zer f i) i 0 = zer f (i + 1) := by
  funext j
  by_cases h : j = i
  · subst h; simp [upd, zer]
  · simp only [upd, zer, h, if_false]
    by_cases h2 : j < i
    · rw [if_pos h2, if_pos (by omega)]
    · rw [if_neg h2, if_neg (by omega)]
def hasB (b : Int32) : Int32 := if b = 0 then 1 else if b = 8 then 1 else if b = 16 then 1 else if b = 32 then 1 else 0
def shBeg (m : Mem) (k : Nat) (b n : Int32) : Mem := upR (upR m k (upd (upd (m k) 1 b) 2 (if b = 0 then 0 else n))) (k + 1) (zer (m (k + 1)) 40)
def cutB (b v : Int32) : Int32 := if b = 8 then v.toInt8.toInt32 else if b = 16 then v.toInt16.toInt32 else v
def hasR (len fr n : Int32) : Int32 := if fr < 0 then 0 else if n < 0 then 0 else if len - fr < n then 0 else 1
def refS (m : Mem) (s : Int32) : Int32 := if inR s 0 3 = 0 then 0 else if m (40 + 1 + 2 * s.toNatClampNeg) 1 = 0 then 5 else -1
set_option maxHeartbeats 4000000 in
theorem c_mayHave (b : Int32) (mem : Mem) : CnE mX2_mayHave [.int b] mem (some (.int (hasB b))) mem := by
  refine Cn.of (ls := [some (.int b)]) (by decide) rfl (Nat.le_of_ble_eq_true rfl) ?_
  refine w_iload_n (i := 0) (n' := 1) dX2_mayHave_0 rfl rfl rfl ?_
  refine w_if_eq (n' := 4) (tgt := 22) dX2_mayHave_1 rfl rfl (fun h1 => ?_) (fun h1 => ?_)
  · refine w_iconst (v := 1) (n' := 23) dX2_mayHave_22 rfl rfl ?_
    refine w_goto (tgt := 27) dX2_mayHave_23 rfl ?_
    exact w_zret dX2_mayHave_27 rfl rfl ⟨by simp [hasB, *], rfl⟩
  · refine w_iload_n (i := 0) (n' := 5) dX2_mayHave_4 rfl rfl rfl ?_
    refine w_bipush (v := 8) (n' := 7) dX2_mayHave_5 rfl (by decide) ?_
    refine w_icmp_eq (n' := 10) (tgt := 22) dX2_mayHave_7 rfl rfl (fun h7 => ?_) (fun h7 => ?_)
    · refine w_iconst (v := 1) (n' := 23) dX2_mayHave_22 rfl rfl ?_
      refine w_goto (tgt := 27) dX2_mayHave_23 rfl ?_
      exact w_zret dX2_mayHave_27 rfl rfl ⟨by simp [hasB, *], rfl⟩
    · refine w_iload_n (i := 0) (n' := 11) dX2_mayHave_10 rfl rfl rfl ?_
      refine w_bipush (v := 16) (n' := 13) dX2_mayHave_11 rfl (by decide) ?_
      refine w_icmp_eq (n' := 16) (tgt := 22) dX2_mayHave_13 rfl rfl (fun h13 => ?_) (fun h13 => ?_)
      · refine w_iconst (v := 1) (n' := 23) dX2_mayHave_22 rfl rfl ?_
        refine w_goto (tgt := 27) dX2_mayHave_23 rfl ?_
        exact w_zret dX2_mayHave_27 rfl rfl ⟨by simp [hasB, *], rfl⟩
      · refine w_iload_n (i := 0) (n' := 17) dX2_mayHave_16 rfl rfl rfl ?_
        refine w_bipush (v := 32) (n' := 19) dX2_mayHave_17 rfl (by decide) ?_
        refine w_icmp_ne (n' := 22) (tgt := 26) dX2_mayHave_19 rfl rfl (fun h19 => ?_) (fun h19 => ?_)
        · refine w_iconst (v := 0) (n' := 27) dX2_mayHave_26 rfl rfl ?_
          exact w_zret dX2_mayHave_27 rfl rfl ⟨by simp [hasB, *], rfl⟩
        · refine w_iconst (v := 1) (n' := 23) dX2_mayHave_22 rfl rfl ?_
          refine w_goto (tgt := 27) dX2_mayHave_23 rfl ?_
          exact w_zret dX2_mayHave_27 rfl rfl ⟨by simp [hasB, *], rfl⟩
set_option maxHeartbeats 4000000 in
theorem c_isMissing {k : Nat} (hk : kd k = 2) (mem : Mem) : CnE mX2_isMissing [.ref k] mem (some (.int (if mem k 1 = 0 then 1 else 0))) mem := by
  refine Cn.of (ls := [some (.ref k)]) (by decide) rfl (Nat.le_of_ble_eq_true rfl) ?_
  refine w_aload_n (i := 0) (n' := 1) dX2_isMissing_0 rfl rfl rfl ?_
  refine w_get (ci := 2) (j := 1) (n' := 4) dX2_isMissing_1 rfl fRX2_15 (Nat.le_of_ble_eq_true rfl) (Nat.le_of_ble_eq_true rfl) hk rfl ?_
  refine w_if_ne (n' := 7) (tgt := 11) dX2_isMissing_4 rfl rfl (fun h4 => ?_) (fun h4 => ?_)
  · refine w_iconst (v := 0) (n' := 12) dX2_isMissing_11 rfl rfl ?_
    exact w_zret dX2_isMissing_12 rfl rfl ⟨by simp [*], rfl⟩
  · refine w_iconst (v := 1) (n' := 8) dX2_isMissing_7 rfl rfl ?_
    refine w_goto (tgt := 12) dX2_isMissing_8 rfl ?_
    exact w_zret dX2_isMissing_12 rfl rfl ⟨by simp [*], rfl⟩
set_option maxHeartbeats 4000000 in
theorem c_hasRow {k : Nat} (hk : kd k = 2) (a b : Int32) (mem : Mem) : CnE mX2_hasRow [.ref k, .int a, .int b] mem (some (.int (hasR (mem k 2) a b))) mem := by
  refine Cn.of (ls := [some (.ref k), some (.int a), some (.int b)]) (by decide) rfl (Nat.le_of_ble_eq_true rfl) ?_
  refine w_iload_n (i := 1) (n' := 1) dX2_hasRow_0 rfl rfl rfl ?_
  refine w_if_lt (n' := 4) (tgt := 22) dX2_hasRow_1 rfl rfl (fun h1 => ?_) (fun h1 => ?_)
  · refine w_iconst (v := 0) (n' := 23) dX2_hasRow_22 rfl rfl ?_
    exact w_zret dX2_hasRow_23 rfl rfl ⟨by simp [hasR, *], rfl⟩
  · refine w_iload_n (i := 2) (n' := 5) dX2_hasRow_4 rfl rfl rfl ?_
    refine w_if_lt (n' := 8) (tgt := 22) dX2_hasRow_5 rfl rfl (fun h5 => ?_) (fun h5 => ?_)
    · refine w_iconst (v := 0) (n' := 23) dX2_hasRow_22 rfl rfl ?_
      exact w_zret dX2_hasRow_23 rfl rfl ⟨by simp [hasR, *], rfl⟩
    · refine w_iload_n (i := 2) (n' := 9) dX2_hasRow_8 rfl rfl rfl ?_
      refine w_aload_n (i := 0) (n' := 10) dX2_hasRow_9 rfl rfl rfl ?_
      refine w_get (ci := 2) (j := 2) (n' := 13) dX2_hasRow_10 rfl fRX2_19 (Nat.le_of_ble_eq_true rfl) (Nat.le_of_ble_eq_true rfl) hk rfl ?_
      refine w_iload_n (i := 1) (n' := 14) dX2_hasRow_13 rfl rfl rfl ?_
      refine w_isub (n' := 15) dX2_hasRow_14 rfl ?_
      refine w_icmp_gt (n' := 18) (tgt := 22) dX2_hasRow_15 rfl rfl (fun h15 => ?_) (fun h15 => ?_)
      · refine w_iconst (v := 0) (n' := 23) dX2_hasRow_22 rfl rfl ?_
        exact w_zret dX2_hasRow_23 rfl rfl ⟨by simp [hasR, *], rfl⟩
      · refine w_iconst (v := 1) (n' := 19) dX2_hasRow_18 rfl rfl ?_
        refine w_goto (tgt := 23) dX2_hasRow_19 rfl ?_
        exact w_zret dX2_hasRow_23 rfl rfl ⟨by simp [hasR, *], rfl⟩
set_option maxHeartbeats 4000000 in
theorem c_put {k q : Nat} (hk : kd k = 2) (i v : Int32) (hq : i = nI q) (hq2 : q < 40) (mem : Mem) : CnE mX2_put [.ref k, .int i, .int v] mem none (up2 mem (k + 1) q (cutB (mem k 1) v)) := by
  refine Cn.of (ls := [some (.ref k), some (.int i), some (.int v)]) (by decide) rfl (Nat.le_of_ble_eq_true rfl) ?_
  refine w_aload_n (i := 0) (n' := 1) dX2_put_0 rfl rfl rfl ?_
  refine w_get (ci := 2) (j := 1) (n' := 4) dX2_put_1 rfl fRX2_15 (Nat.le_of_ble_eq_true rfl) (Nat.le_of_ble_eq_true rfl) hk rfl ?_
  refine w_bipush (v := 8) (n' := 6) dX2_put_4 rfl (by decide) ?_
  refine w_icmp_ne (n' := 9) (tgt := 20) dX2_put_6 rfl rfl (fun h6 => ?_) (fun h6 => ?_)
  · refine w_aload_n (i := 0) (n' := 21) dX2_put_20 rfl rfl rfl ?_
    refine w_get (ci := 2) (j := 1) (n' := 24) dX2_put_21 rfl fRX2_15 (Nat.le_of_ble_eq_true rfl) (Nat.le_of_ble_eq_true rfl) hk rfl ?_
    refine w_bipush (v := 16) (n' := 26) dX2_put_24 rfl (by decide) ?_
    refine w_icmp_ne (n' := 29) (tgt := 40) dX2_put_26 rfl rfl (fun h26 => ?_) (fun h26 => ?_)
    · refine w_aload_n (i := 0) (n' := 41) dX2_put_40 rfl rfl rfl ?_
      refine w_get (ci := 2) (j := 0) (n' := 44) dX2_put_41 rfl fRX2_9 (Nat.le_of_ble_eq_true rfl) (Nat.le_of_ble_eq_true rfl) hk rfl ?_
      refine w_iload_n (i := 1) (n' := 45) dX2_put_44 rfl rfl rfl ?_
      refine w_iload_n (i := 2) (n' := 46) dX2_put_45 rfl rfl rfl ?_
      refine w_iast (n := q) (n' := 47) dX2_put_46 rfl (kSh hk).1 hq (by rw [(kSh hk).2]; exact hq2) ?_
      exact w_vret dX2_put_47 rfl ⟨rfl, by simp [cutB, *]⟩
    · refine w_aload_n (i := 0) (n' := 30) dX2_put_29 rfl rfl rfl ?_
      refine w_get (ci := 2) (j := 0) (n' := 33) dX2_put_30 rfl fRX2_9 (Nat.le_of_ble_eq_true rfl) (Nat.le_of_ble_eq_true rfl) hk rfl ?_
      refine w_iload_n (i := 1) (n' := 34) dX2_put_33 rfl rfl rfl ?_
      refine w_iload_n (i := 2) (n' := 35) dX2_put_34 rfl rfl rfl ?_
      refine w_i2s (v := _) (n' := 36) dX2_put_35 rfl rfl ?_
      refine w_iast (n := q) (n' := 37) dX2_put_36 rfl (kSh hk).1 hq (by rw [(kSh hk).2]; exact hq2) ?_
      refine w_goto (tgt := 47) dX2_put_37 rfl ?_
      exact w_vret dX2_put_47 rfl ⟨rfl, by simp [cutB, *]⟩
  · refine w_aload_n (i := 0) (n' := 10) dX2_put_9 rfl rfl rfl ?_
    refine w_get (ci := 2) (j := 0) (n' := 13) dX2_put_10 rfl fRX2_9 (Nat.le_of_ble_eq_true rfl) (Nat.le_of_ble_eq_true rfl) hk rfl ?_
    refine w_iload_n (i := 1) (n' := 14) dX2_put_13 rfl rfl rfl ?_
    refine w_iload_n (i := 2) (n' := 15) dX2_put_14 rfl rfl rfl ?_
    refine w_i2b (v := _) (n' := 16) dX2_put_15 rfl rfl ?_
    refine w_iast (n := q) (n' := 17) dX2_put_16 rfl (kSh hk).1 hq (by rw [(kSh hk).2]; exact hq2) ?_
    refine w_goto (tgt := 47) dX2_put_17 rfl ?_
    exact w_vret dX2_put_47 rfl ⟨rfl, by simp [cutB, *]⟩
set_option maxHeartbeats 4000000 in
theorem c_shBegin {k : Nat} (hk : kd k = 2) (b n : Int32) (mem : Mem) : CnE mX2_begin [.ref k, .int b, .int n] mem none (shBeg mem k b n) := by
  refine Cn.of (ls := [some (.ref k), some (.int b), some (.int n), none]) (by decide) rfl (Nat.le_of_ble_eq_true rfl) ?_
  refine w_aload_n (i := 0) (n' := 1) dX2_begin_0 rfl rfl rfl ?_
  refine w_iload_n (i := 1) (n' := 2) dX2_begin_1 rfl rfl rfl ?_
  refine w_put (ci := 2) (j := 1) (n' := 5) dX2_begin_2 rfl fRX2_15 (Nat.le_of_ble_eq_true rfl) (Nat.le_of_ble_eq_true rfl) rfl rfl hk rfl ?_
  refine w_aload_n (i := 0) (n' := 6) dX2_begin_5 rfl rfl rfl ?_
  refine w_iload_n (i := 1) (n' := 7) dX2_begin_6 rfl rfl rfl ?_
  refine w_if_ne (n' := 10) (tgt := 14) dX2_begin_7 rfl rfl (fun h7 => ?_) (fun h7 => ?_)
  · refine w_iload_n (i := 2) (n' := 15) dX2_begin_14 rfl rfl rfl ?_
    refine w_put (ci := 2) (j := 2) (n' := 18) dX2_begin_15 rfl fRX2_19 (Nat.le_of_ble_eq_true rfl) (Nat.le_of_ble_eq_true rfl) rfl rfl hk rfl ?_
    refine w_iconst (v := 0) (n' := 19) dX2_begin_18 rfl rfl ?_
    refine w_istore_n (i := 3) (n' := 20) (ls' := [_, _, _, _]) dX2_begin_19 rfl rfl (Nat.le_of_ble_eq_true rfl) rfl rfl ?_
    have L : ∀ (i : Nat) (s : Mem), i ≤ 40 → s = upR (upR mem k (upd (upd (mem k) 1 b) 2 (if b = 0 then 0 else n))) (k + 1) (zer (mem (k + 1)) i) → Wm mX2_begin (zM mX2_begin (fun r' m' => r' = none ∧ m' = (shBeg mem k b n))) 20 [some (.ref k), some (.int b), some (.int n), some (.int (nI i))] [] s := by
      refine for_ind 40 ?_
      intro i s hi h1 ih
      subst h1
      refine w_iload_n (i := 3) (n' := 21) dX2_begin_20 rfl rfl rfl ?_
      refine w_bipush (v := 40) (n' := 23) dX2_begin_21 rfl (by decide) ?_
      refine w_icmp_ge (n' := 26) (tgt := 39) dX2_begin_23 rfl rfl (fun h23 => ?_) (fun h23 => ?_)
      · have hin : i = 40 := by
          rcases Nat.lt_or_ge i 40 with q | q
          · exact absurd h23 (by exact nI_ge (b := 40) q (by omega))
          · omega
        subst hin
        exact w_vret dX2_begin_39 rfl ⟨rfl, rfl⟩
      · have hlt : i < 40 := by
          rcases Nat.lt_or_ge i 40 with q | q
          · exact q
          · exact absurd (by exact nI_le (a := 40) q (by omega)) h23
        refine w_aload_n (i := 0) (n' := 27) dX2_begin_26 rfl rfl rfl ?_
        refine w_get (ci := 2) (j := 0) (n' := 30) dX2_begin_27 rfl fRX2_9 (Nat.le_of_ble_eq_true rfl) (Nat.le_of_ble_eq_true rfl) hk rfl ?_
        refine w_iload_n (i := 3) (n' := 31) dX2_begin_30 rfl rfl rfl ?_
        refine w_iconst (v := 0) (n' := 32) dX2_begin_31 rfl rfl ?_
        refine w_iast (n := i) (n' := 33) dX2_begin_32 rfl (kSh hk).1 rfl (by rw [(kSh hk).2]; exact hlt) ?_
        refine w_iinc (n' := 36) (v := nI (i + 1)) (ls' := [_, _, _, _]) dX2_begin_33 rfl rfl (nI_1 i) (Nat.le_of_ble_eq_true rfl) rfl rfl ?_
        refine w_goto (tgt := 20) dX2_begin_36 rfl ?_
        exact ih hlt _ (by rw [up2_eq, upR_same, upR_upR, zer_succ])
    exact L 0 _ (Nat.zero_le _) (by rw [zer_0, show upR (upR mem k (upd (upd (mem k) 1 b) 2 (if b = 0 then 0 else n))) (k + 1) (mem (k + 1)) = (upR mem k (upd (upd (mem k) 1 b) 2 (if b = 0 then 0 else n))) from by funext a; by_cases h : a = k + 1 <;> simp [upR, h]]; simp [up2_eq, upR_same, upR_upR, h7])
  · refine w_iconst (v := 0) (n' := 11) dX2_begin_10 rfl rfl ?_
    refine w_goto (tgt := 15) dX2_begin_11 rfl ?_
    refine w_put (ci := 2) (j := 2) (n' := 18) dX2_begin_15 rfl fRX2_19 (Nat.le_of_ble_eq_true rfl) (Nat.le_of_ble_eq_true rfl) rfl rfl hk rfl ?_
    refine w_iconst (v := 0) (n' := 19) dX2_begin_18 rfl rfl ?_
    refine w_istore_n (i := 3) (n' := 20) (ls' := [_, _, _, _]) dX2_begin_19 rfl rfl (Nat.le_of_ble_eq_true rfl) rfl rfl ?_
    have L : ∀ (i : Nat) (s : Mem), i ≤ 40 → s = upR (upR mem k (upd (upd (mem k) 1 b) 2 (if b = 0 then 0 else n))) (k + 1) (zer (mem (k + 1)) i) → Wm mX2_begin (zM mX2_begin (fun r' m' => r' = none ∧ m' = (shBeg mem k b n))) 20 [some (.ref k), some (.int b), some (.int n), some (.int (nI i))] [] s := by
      refine for_ind 40 ?_
      intro i s hi h1 ih
      subst h1
      refine w_iload_n (i := 3) (n' := 21) dX2_begin_20 rfl rfl rfl ?_
      refine w_bipush (v := 40) (n' := 23) dX2_begin_21 rfl (by decide) ?_
      refine w_icmp_ge (n' := 26) (tgt := 39) dX2_begin_23 rfl rfl (fun h23 => ?_) (fun h23 => ?_)
      · have hin : i = 40 := by
          rcases Nat.lt_or_ge i 40 with q | q
          · exact absurd h23 (by exact nI_ge (b := 40) q (by omega))
          · omega
        subst hin
        exact w_vret dX2_begin_39 rfl ⟨rfl, rfl⟩
      · have hlt : i < 40 := by
          rcases Nat.lt_or_ge i 40 with q | q
          · exact q
          · exact absurd (by exact nI_le (a := 40) q (by omega)) h23
        refine w_aload_n (i := 0) (n' := 27) dX2_begin_26 rfl rfl rfl ?_
        refine w_get (ci := 2) (j := 0) (n' := 30) dX2_begin_27 rfl fRX2_9 (Nat.le_of_ble_eq_true rfl) (Nat.le_of_ble_eq_true rfl) hk rfl ?_
        refine w_iload_n (i := 3) (n' := 31) dX2_begin_30 rfl rfl rfl ?_
        refine w_iconst (v := 0) (n' := 32) dX2_begin_31 rfl rfl ?_
        refine w_iast (n := i) (n' := 33) dX2_begin_32 rfl (kSh hk).1 rfl (by rw [(kSh hk).2]; exact hlt) ?_
        refine w_iinc (n' := 36) (v := nI (i + 1)) (ls' := [_, _, _, _]) dX2_begin_33 rfl rfl (nI_1 i) (Nat.le_of_ble_eq_true rfl) rfl rfl ?_
        refine w_goto (tgt := 20) dX2_begin_36 rfl ?_
        exact ih hlt _ (by rw [up2_eq, upR_same, upR_upR, zer_succ])
    exact L 0 _ (Nat.zero_le _) (by rw [zer_0, show upR (upR mem k (upd (upd (mem k) 1 b) 2 (if b = 0 then 0 else n))) (k + 1) (mem (k + 1)) = (upR mem k (upd (upd (mem k) 1 b) 2 (if b = 0 then 0 else n))) from by funext a; by_cases h : a = k + 1 <;> simp [upR, h]]; simp [up2_eq, upR_same, upR_upR, h7])
set_option maxHeartbeats 4000000 in
theorem c_refusalOfSheet (s : Int32) (mem : Mem) : CnE mX5_refusalOfSheet [.ref 0, .int s] mem (some (.int (refS mem s))) mem := by
  refine Cn.of (ls := [some (.ref 0), some (.int s)]) (by decide) rfl (Nat.le_of_ble_eq_true rfl) ?_
  refine w_iload_n (i := 1) (n' := 1) dX5_refusalOfSheet_0 rfl rfl rfl ?_
  refine w_iconst (v := 0) (n' := 2) dX5_refusalOfSheet_1 rfl rfl ?_
  refine w_iconst (v := 3) (n' := 3) dX5_refusalOfSheet_2 rfl rfl ?_
  refine s_E (n' := 6) dX5_refusalOfSheet_3 rfl lRX5_53 okX5_within stX5_within ⟨⟨Nat.le_of_ble_eq_true rfl, Nat.le_of_ble_eq_true rfl⟩, Nat.le_of_ble_eq_true rfl, Nat.le_of_ble_eq_true rfl⟩ (c_within _ _ _ _) rfl rfl (Nat.le_of_ble_eq_true rfl) ?_
  refine w_if_ne (n' := 9) (tgt := 11) dX5_refusalOfSheet_6 rfl rfl (fun h6 => ?_) (fun h6 => ?_)
  · obtain ⟨q, hq1, hq2⟩ := inR_of (N := 3) (by decide) h6
    refine w_aload_n (i := 0) (n' := 12) dX5_refusalOfSheet_11 rfl rfl rfl ?_
    refine w_get (ci := 5) (j := 5) (n' := 15) dX5_refusalOfSheet_12 rfl fRX5_40 (Nat.le_of_ble_eq_true rfl) (Nat.le_of_ble_eq_true rfl) rfl rfl ?_
    refine w_iload_n (i := 1) (n' := 16) dX5_refusalOfSheet_15 rfl rfl rfl ?_
    refine w_aaldS (n := q) (n' := 17) dX5_refusalOfSheet_16 rfl rfl hq2 (show q < 4 by omega) ?_
    refine v_E (ci := 2) (n' := 20) dX5_refusalOfSheet_17 rfl lRX5_255 okX2_isMissing voX2_isMissing ⟨⟨Nat.le_of_ble_eq_true rfl, Nat.le_of_ble_eq_true rfl⟩, Nat.le_of_ble_eq_true rfl, Nat.le_of_ble_eq_true rfl⟩ (c_isMissing (kS4 q (by omega)) _) rfl rfl (Nat.le_of_ble_eq_true rfl) (kS4 q (by omega)) (Nat.le_of_ble_eq_true rfl) rfl ?_
    refine w_if_eq (n' := 23) (tgt := 27) dX5_refusalOfSheet_20 rfl rfl (fun h20 => ?_) (fun h20 => ?_)
    · refine w_iconst (v := -1) (n' := 28) dX5_refusalOfSheet_27 rfl rfl ?_
      exact w_iret dX5_refusalOfSheet_28 rfl ⟨by rw [refS, if_neg h6, show s.toNatClampNeg = q by rw [hq2]; exact nI_clamp (by omega)]; by_cases z : mem (40 + 1 + 2 * q) 1 = 0 <;> simp_all, rfl⟩
    · refine w_iconst (v := 5) (n' := 24) dX5_refusalOfSheet_23 rfl rfl ?_
      refine w_goto (tgt := 28) dX5_refusalOfSheet_24 rfl ?_
      exact w_iret dX5_refusalOfSheet_28 rfl ⟨by rw [refS, if_neg h6, show s.toNatClampNeg = q by rw [hq2]; exact nI_clamp (by omega)]; by_cases z : mem (40 + 1 + 2 * q) 1 = 0 <;> simp_all, rfl⟩
  · refine w_iconst (v := 0) (n' := 10) dX5_refusalOfSheet_9 rfl rfl ?_
    exact w_iret dX5_refusalOfSheet_10 rfl ⟨by rw [refS, if_pos (by simpa using h6)], rfl⟩
theorem refS_c {m : Mem} {s : Int32} : (refS m s = 0 ∧ inR s 0 3 = 0) ∨ (∃ q, q < 4 ∧ s = nI q ∧ ¬ inR s 0 3 = 0 ∧ ((refS m s = 5 ∧ m (40 + 1 + 2 * q) 1 = 0) ∨ (refS m s = -1 ∧ ¬ m (40 + 1 + 2 * q) 1 = 0))) := by
  by_cases h : inR s 0 3 = 0
  · left; exact ⟨by rw [refS, if_pos h], h⟩
  · right
    obtain ⟨q, h1, h2⟩ := inR_of (N := 3) (by decide) h
    have e : s.toNatClampNeg = q := by rw [h2]; exact nI_clamp (by omega)
    refine ⟨q, by omega, h2, h, ?_⟩
    by_cases z : m (40 + 1 + 2 * q) 1 = 0
    · left; exact ⟨by rw [refS, if_neg h, e, if_pos z], z⟩
    · right; exact ⟨by rw [refS, if_neg h, e, if_neg z], z⟩
set_option maxHeartbeats 4000000 in
theorem c_refusalOfFit (s f : Int32) (mem : Mem) : CnE mX5_refusalOfFit [.ref 0, .int s, .int f] mem (some (.int (if refS mem s = -1 then (if inR f 0 (mem 1 3 - 1) = 0 then 0 else -1) else refS mem s))) mem := by
  refine Cn.of (ls := [some (.ref 0), some (.int s), some (.int f), none]) (by decide) rfl (Nat.le_of_ble_eq_true rfl) ?_
  refine w_aload_n (i := 0) (n' := 1) dX5_refusalOfFit_0 rfl rfl rfl ?_
  refine w_iload_n (i := 1) (n' := 2) dX5_refusalOfFit_1 rfl rfl rfl ?_
  refine v_E (ci := 5) (n' := 5) dX5_refusalOfFit_2 rfl lRX5_211 okX5_refusalOfSheet voX5_refusalOfSheet ⟨⟨Nat.le_of_ble_eq_true rfl, Nat.le_of_ble_eq_true rfl⟩, Nat.le_of_ble_eq_true rfl, Nat.le_of_ble_eq_true rfl⟩ (c_refusalOfSheet _ _) rfl rfl (Nat.le_of_ble_eq_true rfl) rfl (Nat.le_of_ble_eq_true rfl) rfl ?_
  refine w_istore_n (i := 3) (n' := 6) (ls' := [_, _, _, _]) dX5_refusalOfFit_5 rfl rfl (Nat.le_of_ble_eq_true rfl) rfl rfl ?_
  refine w_iload_n (i := 3) (n' := 7) dX5_refusalOfFit_6 rfl rfl rfl ?_
  refine w_iconst (v := -1) (n' := 8) dX5_refusalOfFit_7 rfl rfl ?_
  refine w_icmp_eq (n' := 11) (tgt := 13) dX5_refusalOfFit_8 rfl rfl (fun h8 => ?_) (fun h8 => ?_)
  · refine w_aload_n (i := 0) (n' := 14) dX5_refusalOfFit_13 rfl rfl rfl ?_
    refine w_get (ci := 5) (j := 0) (n' := 17) dX5_refusalOfFit_14 rfl fRX5_10 (Nat.le_of_ble_eq_true rfl) (Nat.le_of_ble_eq_true rfl) rfl rfl ?_
    refine w_iload_n (i := 2) (n' := 18) dX5_refusalOfFit_17 rfl rfl rfl ?_
    refine v_E (ci := 1) (n' := 21) dX5_refusalOfFit_18 rfl lRX5_78 okX1_hasFarm voX1_hasFarm ⟨⟨Nat.le_of_ble_eq_true rfl, Nat.le_of_ble_eq_true rfl⟩, Nat.le_of_ble_eq_true rfl, Nat.le_of_ble_eq_true rfl⟩ (c_hasFarm rfl _ _) rfl rfl (Nat.le_of_ble_eq_true rfl) rfl (Nat.le_of_ble_eq_true rfl) rfl ?_
    refine w_if_eq (n' := 24) (tgt := 28) dX5_refusalOfFit_21 rfl rfl (fun h21 => ?_) (fun h21 => ?_)
    · refine w_iconst (v := 0) (n' := 29) dX5_refusalOfFit_28 rfl rfl ?_
      exact w_iret dX5_refusalOfFit_29 rfl ⟨by simp [*], rfl⟩
    · refine w_iconst (v := -1) (n' := 25) dX5_refusalOfFit_24 rfl rfl ?_
      refine w_goto (tgt := 29) dX5_refusalOfFit_25 rfl ?_
      exact w_iret dX5_refusalOfFit_29 rfl ⟨by simp [*], rfl⟩
  · refine w_iload_n (i := 3) (n' := 12) dX5_refusalOfFit_11 rfl rfl rfl ?_
    exact w_iret dX5_refusalOfFit_12 rfl ⟨by simp [*], rfl⟩
set_option maxHeartbeats 4000000 in
theorem c5_sheet (s b n : Int32) (mem : Mem) : CnI mX5_sheet [.ref 0, .int s, .int b, .int n] mem (fun x m' => ((inR s 0 3 = 0 ∨ hasB b = 0) ∧ x = -1000001 ∧ m' = fnd mem 0) ∨ (¬ inR s 0 3 = 0 ∧ ¬ hasB b = 0 ∧ n < 0 ∧ x = -1000007 ∧ m' = fnd mem 6) ∨ (¬ inR s 0 3 = 0 ∧ ¬ hasB b = 0 ∧ ¬ n < 0 ∧ 40 < n ∧ x = -1000001 ∧ m' = fnd mem 0) ∨ (∃ q, q < 4 ∧ s = nI q ∧ ¬ inR s 0 3 = 0 ∧ ¬ hasB b = 0 ∧ ¬ n < 0 ∧ ¬ 40 < n ∧ x = (if b = 0 then 0 else n) ∧ m' = shBeg mem (40 + 1 + 2 * q) b n)) := by
  refine Cn.of (ls := [some (.ref 0), some (.int s), some (.int b), some (.int n)]) (by decide) rfl (Nat.le_of_ble_eq_true rfl) ?_
  refine w_iload_n (i := 1) (n' := 1) dX5_sheet_0 rfl rfl rfl ?_
  refine w_iconst (v := 0) (n' := 2) dX5_sheet_1 rfl rfl ?_
  refine w_iconst (v := 3) (n' := 3) dX5_sheet_2 rfl rfl ?_
  refine s_E (n' := 6) dX5_sheet_3 rfl lRX5_53 okX5_within stX5_within ⟨⟨Nat.le_of_ble_eq_true rfl, Nat.le_of_ble_eq_true rfl⟩, Nat.le_of_ble_eq_true rfl, Nat.le_of_ble_eq_true rfl⟩ (c_within _ _ _ _) rfl rfl (Nat.le_of_ble_eq_true rfl) ?_
  refine w_if_eq (n' := 9) (tgt := 16) dX5_sheet_6 rfl rfl (fun h6 => ?_) (fun h6 => ?_)
  · refine w_aload_n (i := 0) (n' := 17) dX5_sheet_16 rfl rfl rfl ?_
    refine w_iconst (v := 0) (n' := 18) dX5_sheet_17 rfl rfl ?_
    refine v_E (ci := 5) (n' := 21) dX5_sheet_18 rfl lRX5_57 okX5_finding voX5_finding ⟨⟨Nat.le_of_ble_eq_true rfl, Nat.le_of_ble_eq_true rfl⟩, Nat.le_of_ble_eq_true rfl, Nat.le_of_ble_eq_true rfl⟩ (c_finding 0 _ (by decide) (by decide) _) rfl rfl (Nat.le_of_ble_eq_true rfl) rfl (Nat.le_of_ble_eq_true rfl) rfl ?_
    exact w_iret dX5_sheet_21 rfl ⟨_, rfl, Or.inl ⟨Or.inl h6, rfl, rfl⟩⟩
  · refine w_iload_n (i := 2) (n' := 10) dX5_sheet_9 rfl rfl rfl ?_
    refine s_E (n' := 13) dX5_sheet_10 rfl lRX5_246 okX2_mayHave stX2_mayHave ⟨⟨Nat.le_of_ble_eq_true rfl, Nat.le_of_ble_eq_true rfl⟩, Nat.le_of_ble_eq_true rfl, Nat.le_of_ble_eq_true rfl⟩ (c_mayHave _ _) rfl rfl (Nat.le_of_ble_eq_true rfl) ?_
    refine w_if_ne (n' := 16) (tgt := 22) dX5_sheet_13 rfl rfl (fun h13 => ?_) (fun h13 => ?_)
    · refine w_iload_n (i := 3) (n' := 23) dX5_sheet_22 rfl rfl rfl ?_
      refine w_if_ge (n' := 26) (tgt := 33) dX5_sheet_23 rfl rfl (fun h23 => ?_) (fun h23 => ?_)
      · have h23n : ¬ n < 0 := Int32.not_lt.mpr h23
        refine w_iload_n (i := 3) (n' := 34) dX5_sheet_33 rfl rfl rfl ?_
        refine w_bipush (v := 40) (n' := 36) dX5_sheet_34 rfl (by decide) ?_
        refine w_icmp_le (n' := 39) (tgt := 45) dX5_sheet_36 rfl rfl (fun h36 => ?_) (fun h36 => ?_)
        · have h36n : ¬ 40 < n := Int32.not_lt.mpr h36
          obtain ⟨q, hq1, hq2⟩ := inR_of (N := 3) (by decide) h6
          refine w_aload_n (i := 0) (n' := 46) dX5_sheet_45 rfl rfl rfl ?_
          refine w_get (ci := 5) (j := 5) (n' := 49) dX5_sheet_46 rfl fRX5_40 (Nat.le_of_ble_eq_true rfl) (Nat.le_of_ble_eq_true rfl) rfl rfl ?_
          refine w_iload_n (i := 1) (n' := 50) dX5_sheet_49 rfl rfl rfl ?_
          refine w_aaldS (n := q) (n' := 51) dX5_sheet_50 rfl rfl hq2 (show q < 4 by omega) ?_
          refine w_iload_n (i := 2) (n' := 52) dX5_sheet_51 rfl rfl rfl ?_
          refine w_iload_n (i := 3) (n' := 53) dX5_sheet_52 rfl rfl rfl ?_
          refine v_E (ci := 2) (n' := 56) dX5_sheet_53 rfl lRX5_249 okX2_begin voX2_begin ⟨⟨Nat.le_of_ble_eq_true rfl, Nat.le_of_ble_eq_true rfl⟩, Nat.le_of_ble_eq_true rfl, Nat.le_of_ble_eq_true rfl⟩ (c_shBegin (kS4 q (by omega)) _ _ _) rfl rfl (Nat.le_of_ble_eq_true rfl) (kS4 q (by omega)) (Nat.le_of_ble_eq_true rfl) rfl ?_
          refine w_aload_n (i := 0) (n' := 57) dX5_sheet_56 rfl rfl rfl ?_
          refine w_get (ci := 5) (j := 5) (n' := 60) dX5_sheet_57 rfl fRX5_40 (Nat.le_of_ble_eq_true rfl) (Nat.le_of_ble_eq_true rfl) rfl rfl ?_
          refine w_iload_n (i := 1) (n' := 61) dX5_sheet_60 rfl rfl rfl ?_
          refine w_aaldS (n := q) (n' := 62) dX5_sheet_61 rfl rfl hq2 (show q < 4 by omega) ?_
          refine w_get (ci := 2) (j := 2) (n' := 65) dX5_sheet_62 rfl fRX5_214 (Nat.le_of_ble_eq_true rfl) (Nat.le_of_ble_eq_true rfl) (kS4 q (by omega)) rfl ?_
          exact w_iret dX5_sheet_65 rfl ⟨_, rfl, Or.inr (Or.inr (Or.inr ⟨q, by omega, hq2, h6, h13, h23n, h36n, by simp [shBeg, upR, upd], rfl⟩))⟩
        · have h36 : 40 < n := Int32.not_le.mp h36
          refine w_aload_n (i := 0) (n' := 40) dX5_sheet_39 rfl rfl rfl ?_
          refine w_iconst (v := 0) (n' := 41) dX5_sheet_40 rfl rfl ?_
          refine v_E (ci := 5) (n' := 44) dX5_sheet_41 rfl lRX5_57 okX5_finding voX5_finding ⟨⟨Nat.le_of_ble_eq_true rfl, Nat.le_of_ble_eq_true rfl⟩, Nat.le_of_ble_eq_true rfl, Nat.le_of_ble_eq_true rfl⟩ (c_finding 0 _ (by decide) (by decide) _) rfl rfl (Nat.le_of_ble_eq_true rfl) rfl (Nat.le_of_ble_eq_true rfl) rfl ?_
          exact w_iret dX5_sheet_44 rfl ⟨_, rfl, Or.inr (Or.inr (Or.inl ⟨h6, h13, h23n, h36, rfl, rfl⟩))⟩
      · have h23 : n < 0 := Int32.not_le.mp h23
        refine w_aload_n (i := 0) (n' := 27) dX5_sheet_26 rfl rfl rfl ?_
        refine w_bipush (v := 6) (n' := 29) dX5_sheet_27 rfl (by decide) ?_
        refine v_E (ci := 5) (n' := 32) dX5_sheet_29 rfl lRX5_57 okX5_finding voX5_finding ⟨⟨Nat.le_of_ble_eq_true rfl, Nat.le_of_ble_eq_true rfl⟩, Nat.le_of_ble_eq_true rfl, Nat.le_of_ble_eq_true rfl⟩ (c_finding 6 _ (by decide) (by decide) _) rfl rfl (Nat.le_of_ble_eq_true rfl) rfl (Nat.le_of_ble_eq_true rfl) rfl ?_
        exact w_iret dX5_sheet_32 rfl ⟨_, rfl, Or.inr (Or.inl ⟨h6, h13, by simpa using h23, rfl, rfl⟩)⟩
    · refine w_aload_n (i := 0) (n' := 17) dX5_sheet_16 rfl rfl rfl ?_
      refine w_iconst (v := 0) (n' := 18) dX5_sheet_17 rfl rfl ?_
      refine v_E (ci := 5) (n' := 21) dX5_sheet_18 rfl lRX5_57 okX5_finding voX5_finding ⟨⟨Nat.le_of_ble_eq_true rfl, Nat.le_of_ble_eq_true rfl⟩, Nat.le_of_ble_eq_true rfl, Nat.le_of_ble_eq_true rfl⟩ (c_finding 0 _ (by decide) (by decide) _) rfl rfl (Nat.le_of_ble_eq_true rfl) rfl (Nat.le_of_ble_eq_true rfl) rfl ?_
      exact w_iret dX5_sheet_21 rfl ⟨_, rfl, Or.inl ⟨Or.inr (by simpa using h13), rfl, rfl⟩⟩
