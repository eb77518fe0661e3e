/-! sheets -/
theorem kSh0 : ∀ k, k < 62 → kd k = 2 → kd (k + 1) = 10 ∧ al (k + 1) = 40 := by decide +kernel
theorem kSh {k : Nat} (h : kd k = 2) : kd (k + 1) = 10 ∧ al (k + 1) = 40 := kSh0 k (kd_lt h (by omega)) h
theorem kS4 : ∀ s, s < 4 → kd (40 + 1 + 2 * s) = 2 := by decide +kernel
def zer (f : Nat → Int32) (i : Nat) : Nat → Int32 := fun j => if j < i then 0 else f j
theorem zer_0 (f : Nat → Int32) : zer f 0 = f := by funext j; simp [zer]
theorem zer_succ (f : Nat → Int32) (i : Nat) : upd (zer f i) i 0 = zer f (i + 1) := by
  funext j
  by_cases h : j = i
  · subst h; simp [upd, zer]
  · simp only [upd, zer, h, if_false]
    by_cases h2 : j < i
    · rw [if_pos h2, if_pos (by omega)]
    · rw [if_neg h2, if_neg (by omega)]
def hasB (b : Int32) : Int32 := if b = 0 then 1 else if b = 8 then 1 else if b = 16 then 1 else if b = 32 then 1 else 0
def shBeg (m : Mem) (k : Nat) (b n : Int32) : Mem := upR (upR m k (upd (upd (m k) 1 b) 2 (if b = 0 then 0 else n))) (k + 1) (zer (m (k + 1)) 40)
def cutB (b v : Int32) : Int32 := if b = 8 then v.toInt8.toInt32 else if b = 16 then v.toInt16.toInt32 else v
def hasR (len fr n : Int32) : Int32 := if fr < 0 then 0 else if n < 0 then 0 else if len - fr < n then 0 else 1
def refS (m : Mem) (s : Int32) : Int32 := if inR s 0 3 = 0 then 0 else if m (40 + 1 + 2 * s.toNatClampNeg) 1 = 0 then 5 else -1
set_option maxHeartbeats 4000000 in
theorem c_mayHave (b : Int32) (mem : Mem) : CnE mX2_mayHave [.int b] mem (some (.int (hasB b))) mem := by
  refine Cn.of (ls := [some (.int b)]) (by decide) rfl (Nat.le_of_ble_eq_true rfl) ?_
  refine w_iload_n (i := 0) (n' := 1) dX2_mayHave_0 rfl rfl rfl ?_
  refine w_if_eq (n' := 4) (tgt := 22) dX2_mayHave_1 rfl rfl (fun h1 => ?_) (fun h1 => ?_)
  · refine w_iconst (v := 1) (n' := 23) dX2_mayHave_22 rfl rfl ?_
    refine w_goto (tgt := 27) dX2_mayHave_23 rfl ?_
    exact w_zret dX2_mayHave_27 rfl rfl ⟨by simp [hasB, *], rfl⟩
  · refine w_iload_n (i := 0) (n' := 5) dX2_mayHave_4 rfl rfl rfl ?_
    refine w_bipush (v := 8) (n' := 7) dX2_mayHave_5 rfl (by decide) ?_
    refine w_icmp_eq (n' := 10) (tgt := 22) dX2_mayHave_7 rfl rfl (fun h7 => ?_) (fun h7 => ?_)
    · refine w_iconst (v := 1) (n' := 23) dX2_mayHave_22 rfl rfl ?_
      refine w_goto (tgt := 27) dX2_mayHave_23 rfl ?_
      exact w_zret dX2_mayHave_27 rfl rfl ⟨by simp [hasB, *], rfl⟩
    · refine w_iload_n (i := 0) (n' := 11) dX2_mayHave_10 rfl rfl rfl ?_
      refine w_bipush (v := 16) (n' := 13) dX2_mayHave_11 rfl (by decide) ?_
      refine w_icmp_eq (n' := 16) (tgt := 22) dX2_mayHave_13 rfl rfl (fun h13 => ?_) (fun h13 => ?_)
      · refine w_iconst (v := 1) (n' := 23) dX2_mayHave_22 rfl rfl ?_
        refine w_goto (tgt := 27) dX2_mayHave_23 rfl ?_
        exact w_zret dX2_mayHave_27 rfl rfl ⟨by simp [hasB, *], rfl⟩
      · refine w_iload_n (i := 0) (n' := 17) dX2_mayHave_16 rfl rfl rfl ?_
        refine w_bipush (v := 32) (n' := 19) dX2_mayHave_17 rfl (by decide) ?_
        refine w_icmp_ne (n' := 22) (tgt := 26) dX2_mayHave_19 rfl rfl (fun h19 => ?_) (fun h19 => ?_)
        · refine w_iconst (v := 0) (n' := 27) dX2_mayHave_26 rfl rfl ?_
          exact w_zret dX2_mayHave_27 rfl rfl ⟨by simp [hasB, *], rfl⟩
        · refine w_iconst (v := 1) (n' := 23) dX2_mayHave_22 rfl rfl ?_
          refine w_goto (tgt := 27) dX2_mayHave_23 rfl ?_
          exact w_zret dX2_mayHave_27 rfl rfl ⟨by simp [hasB, *], rfl⟩
set_option maxHeartbeats 4000000 in
theorem c_isMissing {k : Nat} (hk : kd k = 2) (mem : Mem) : CnE mX2_isMissing [.ref k] mem (some (.int (if mem k 1 = 0 then 1 else 0))) mem := by
  refine Cn.of (ls := [some (.ref k)]) (by decide) rfl (Nat.le_of_ble_eq_true rfl) ?_
  refine w_aload_n (i := 0) (n' := 1) dX2_isMissing_0 rfl rfl rfl ?_
  refine w_get (ci := 2) (j := 1) (n' := 4) dX2_isMissing_1 rfl fRX2_15 (Nat.le_of_ble_eq_true rfl) (Nat.le_of_ble_eq_true rfl) hk rfl ?_
  refine w_if_ne (n' := 7) (tgt := 11) dX2_isMissing_4 rfl rfl (fun h4 => ?_) (fun h4 => ?_)
  · refine w_iconst (v := 0) (n' := 12) dX2_isMissing_11 rfl rfl ?_
    exact w_zret dX2_isMissing_12 rfl rfl ⟨by simp [*], rfl⟩
  · refine w_iconst (v := 1) (n' := 8) dX2_isMissing_7 rfl rfl ?_
    refine w_goto (tgt := 12) dX2_isMissing_8 rfl ?_
    exact w_zret dX2_isMissing_12 rfl rfl ⟨by simp [*], rfl⟩
set_option maxHeartbeats 4000000 in
theorem c_hasRow {k : Nat} (hk : kd k = 2) (a b : Int32) (mem : Mem) : CnE mX2_hasRow [.ref k, .int a, .int b] mem (some (.int (hasR (mem k 2) a b))) mem := by
  refine Cn.of (ls := [some (.ref k), some (.int a), some (.int b)]) (by decide) rfl (Nat.le_of_ble_eq_true rfl) ?_
  refine w_iload_n (i := 1) (n' := 1) dX2_hasRow_0 rfl rfl rfl ?_
  refine w_if_lt (n' := 4) (tgt := 22) dX2_hasRow_1 rfl rfl (fun h1 => ?_) (fun h1 => ?_)
  · refine w_iconst (v := 0) (n' := 23) dX2_hasRow_22 rfl rfl ?_
    exact w_zret dX2_hasRow_23 rfl rfl ⟨by simp [hasR, *], rfl⟩
  · refine w_iload_n (i := 2) (n' := 5) dX2_hasRow_4 rfl rfl rfl ?_
    refine w_if_lt (n' := 8) (tgt := 22) dX2_hasRow_5 rfl rfl (fun h5 => ?_) (fun h5 => ?_)
    · refine w_iconst (v := 0) (n' := 23) dX2_hasRow_22 rfl rfl ?_
      exact w_zret dX2_hasRow_23 rfl rfl ⟨by simp [hasR, *], rfl⟩
    · refine w_iload_n (i := 2) (n' := 9) dX2_hasRow_8 rfl rfl rfl ?_
      refine w_aload_n (i := 0) (n' := 10) dX2_hasRow_9 rfl rfl rfl ?_
      refine w_get (ci := 2) (j := 2) (n' := 13) dX2_hasRow_10 rfl fRX2_19 (Nat.le_of_ble_eq_true rfl) (Nat.le_of_ble_eq_true rfl) hk rfl ?_
      refine w_iload_n (i := 1) (n' := 14) dX2_hasRow_13 rfl rfl rfl ?_
      refine w_isub (n' := 15) dX2_hasRow_14 rfl ?_
      refine w_icmp_gt (n' := 18) (tgt := 22) dX2_hasRow_15 rfl rfl (fun h15 => ?_) (fun h15 => ?_)
      · refine w_iconst (v := 0) (n' := 23) dX2_hasRow_22 rfl rfl ?_
        exact w_zret dX2_hasRow_23 rfl rfl ⟨by simp [hasR, *], rfl⟩
      · refine w_iconst (v := 1) (n' := 19) dX2_hasRow_18 rfl rfl ?_
        refine w_goto (tgt := 23) dX2_hasRow_19 rfl ?_
        exact w_zret dX2_hasRow_23 rfl rfl ⟨by simp [hasR, *], rfl⟩
set_option maxHeartbeats 4000000 in
theorem c_put {k q : Nat} (hk : kd k = 2) (i v : Int32) (hq : i = nI q) (hq2 : q < 40) (mem : Mem) : CnE mX2_put [.ref k, .int i, .int v] mem none (up2 mem (k + 1) q (cutB (mem k 1) v)) := by
  refine Cn.of (ls := [some (.ref k), some (.int i), some (.int v)]) (by decide) rfl (Nat.le_of_ble_eq_true rfl) ?_
  refine w_aload_n (i := 0) (n' := 1) dX2_put_0 rfl rfl rfl ?_
  refine w_get (ci := 2) (j := 1) (n' := 4) dX2_put_1 rfl fRX2_15 (Nat.le_of_ble_eq_true rfl) (Nat.le_of_ble_eq_true rfl) hk rfl ?_
  refine w_bipush (v := 8) (n' := 6) dX2_put_4 rfl (by decide) ?_
  refine w_icmp_ne (n' := 9) (tgt := 20) dX2_put_6 rfl rfl (fun h6 => ?_) (fun h6 => ?_)
  · refine w_aload_n (i := 0) (n' := 21) dX2_put_20 rfl rfl rfl ?_
    refine w_get (ci := 2) (j := 1) (n' := 24) dX2_put_21 rfl fRX2_15 (Nat.le_of_ble_eq_true rfl) (Nat.le_of_ble_eq_true rfl) hk rfl ?_
    refine w_bipush (v := 16) (n' := 26) dX2_put_24 rfl (by decide) ?_
    refine w_icmp_ne (n' := 29) (tgt := 40) dX2_put_26 rfl rfl (fun h26 => ?_) (fun h26 => ?_)
    · refine w_aload_n (i := 0) (n' := 41) dX2_put_40 rfl rfl rfl ?_
      refine w_get (ci := 2) (j := 0) (n' := 44) dX2_put_41 rfl fRX2_9 (Nat.le_of_ble_eq_true rfl) (Nat.le_of_ble_eq_true rfl) hk rfl ?_
      refine w_iload_n (i := 1) (n' := 45) dX2_put_44 rfl rfl rfl ?_
      refine w_iload_n (i := 2) (n' := 46) dX2_put_45 rfl rfl rfl ?_
      refine w_iast (n := q) (n' := 47) dX2_put_46 rfl (kSh hk).1 hq (by rw [(kSh hk).2]; exact hq2) ?_
      exact w_vret dX2_put_47 rfl ⟨rfl, by simp [cutB, *]⟩
    · refine w_aload_n (i := 0) (n' := 30) dX2_put_29 rfl rfl rfl ?_
      refine w_get (ci := 2) (j := 0) (n' := 33) dX2_put_30 rfl fRX2_9 (Nat.le_of_ble_eq_true rfl) (Nat.le_of_ble_eq_true rfl) hk rfl ?_
      refine w_iload_n (i := 1) (n' := 34) dX2_put_33 rfl rfl rfl ?_
      refine w_iload_n (i := 2) (n' := 35) dX2_put_34 rfl rfl rfl ?_
      refine w_i2s (v := _) (n' := 36) dX2_put_35 rfl rfl ?_
      refine w_iast (n := q) (n' := 37) dX2_put_36 rfl (kSh hk).1 hq (by rw [(kSh hk).2]; exact hq2) ?_
      refine w_goto (tgt := 47) dX2_put_37 rfl ?_
      exact w_vret dX2_put_47 rfl ⟨rfl, by simp [cutB, *]⟩
  · refine w_aload_n (i := 0) (n' := 10) dX2_put_9 rfl rfl rfl ?_
    refine w_get (ci := 2) (j := 0) (n' := 13) dX2_put_10 rfl fRX2_9 (Nat.le_of_ble_eq_true rfl) (Nat.le_of_ble_eq_true rfl) hk rfl ?_
    refine w_iload_n (i := 1) (n' := 14) dX2_put_13 rfl rfl rfl ?_
    refine w_iload_n (i := 2) (n' := 15) dX2_put_14 rfl rfl rfl ?_
    refine w_i2b (v := _) (n' := 16) dX2_put_15 rfl rfl ?_
    refine w_iast (n := q) (n' := 17) dX2_put_16 rfl (kSh hk).1 hq (by rw [(kSh hk).2]; exact hq2) ?_
    refine w_goto (tgt := 47) dX2_put_17 rfl ?_
    exact w_vret dX2_put_47 rfl ⟨rfl, by simp [cutB, *]⟩
set_option maxHeartbeats 4000000 in
theorem c_shBegin {k : Nat} (hk : kd k = 2) (b n : Int32) (mem : Mem) : CnE mX2_begin [.ref k, .int b, .int n] mem none (shBeg mem k b n) := by
  refine Cn.of (ls := [some (.ref k), some (.int b), some (.int n), none]) (by decide) rfl (Nat.le_of_ble_eq_true rfl) ?_
  refine w_aload_n (i := 0) (n' := 1) dX2_begin_0 rfl rfl rfl ?_
  refine w_iload_n (i := 1) (n' := 2) dX2_begin_1 rfl rfl rfl ?_
  refine w_put (ci := 2) (j := 1) (n' := 5) dX2_begin_2 rfl fRX2_15 (Nat.le_of_ble_eq_true rfl) (Nat.le_of_ble_eq_true rfl) rfl rfl hk rfl ?_
  refine w_aload_n (i := 0) (n' := 6) dX2_begin_5 rfl rfl rfl ?_
  refine w_iload_n (i := 1) (n' := 7) dX2_begin_6 rfl rfl rfl ?_
  refine w_if_ne (n' := 10) (tgt := 14) dX2_begin_7 rfl rfl (fun h7 => ?_) (fun h7 => ?_)
  · refine w_iload_n (i := 2) (n' := 15) dX2_begin_14 rfl rfl rfl ?_
    refine w_put (ci := 2) (j := 2) (n' := 18) dX2_begin_15 rfl fRX2_19 (Nat.le_of_ble_eq_true rfl) (Nat.le_of_ble_eq_true rfl) rfl rfl hk rfl ?_
    refine w_iconst (v := 0) (n' := 19) dX2_begin_18 rfl rfl ?_
    refine w_istore_n (i := 3) (n' := 20) (ls' := [_, _, _, _]) dX2_begin_19 rfl rfl (Nat.le_of_ble_eq_true rfl) rfl rfl ?_
    have L : ∀ (i : Nat) (s : Mem), i ≤ 40 → s = upR (upR mem k (upd (upd (mem k) 1 b) 2 (if b = 0 then 0 else n))) (k + 1) (zer (mem (k + 1)) i) → Wm mX2_begin (zM mX2_begin (fun r' m' => r' = none ∧ m' = (shBeg mem k b n))) 20 [some (.ref k), some (.int b), some (.int n), some (.int (nI i))] [] s := by
      refine for_ind 40 ?_
      intro i s hi h1 ih
      subst h1
      refine w_iload_n (i := 3) (n' := 21) dX2_begin_20 rfl rfl rfl ?_
      refine w_bipush (v := 40) (n' := 23) dX2_begin_21 rfl (by decide) ?_
      refine w_icmp_ge (n' := 26) (tgt := 39) dX2_begin_23 rfl rfl (fun h23 => ?_) (fun h23 => ?_)
      · have hin : i = 40 := by
          rcases Nat.lt_or_ge i 40 with q | q
          · exact absurd h23 (by exact nI_ge (b := 40) q (by omega))
          · omega
        subst hin
        exact w_vret dX2_begin_39 rfl ⟨rfl, rfl⟩
      · have hlt : i < 40 := by
          rcases Nat.lt_or_ge i 40 with q | q
          · exact q
          · exact absurd (by exact nI_le (a := 40) q (by omega)) h23
        refine w_aload_n (i := 0) (n' := 27) dX2_begin_26 rfl rfl rfl ?_
        refine w_get (ci := 2) (j := 0) (n' := 30) dX2_begin_27 rfl fRX2_9 (Nat.le_of_ble_eq_true rfl) (Nat.le_of_ble_eq_true rfl) hk rfl ?_
        refine w_iload_n (i := 3) (n' := 31) dX2_begin_30 rfl rfl rfl ?_
        refine w_iconst (v := 0) (n' := 32) dX2_begin_31 rfl rfl ?_
        refine w_iast (n := i) (n' := 33) dX2_begin_32 rfl (kSh hk).1 rfl (by rw [(kSh hk).2]; exact hlt) ?_
        refine w_iinc (n' := 36) (v := nI (i + 1)) (ls' := [_, _, _, _]) dX2_begin_33 rfl rfl (nI_1 i) (Nat.le_of_ble_eq_true rfl) rfl rfl ?_
        refine w_goto (tgt := 20) dX2_begin_36 rfl ?_
        exact ih hlt _ (by rw [up2_eq, upR_same, upR_upR, zer_succ])
    exact L 0 _ (Nat.zero_le _) (by rw [zer_0, show upR (upR mem k (upd (upd (mem k) 1 b) 2 (if b = 0 then 0 else n))) (k + 1) (mem (k + 1)) = (upR mem k (upd (upd (mem k) 1 b) 2 (if b = 0 then 0 else n))) from by funext a; by_cases h : a = k + 1 <;> simp [upR, h]]; simp [up2_eq, upR_same, upR_upR, h7])
  · refine w_iconst (v := 0) (n' := 11) dX2_begin_10 rfl rfl ?_
    refine w_goto (tgt := 15) dX2_begin_11 rfl ?_
    refine w_put (ci := 2) (j := 2) (n' := 18) dX2_begin_15 rfl fRX2_19 (Nat.le_of_ble_eq_true rfl) (Nat.le_of_ble_eq_true rfl) rfl rfl hk rfl ?_
    refine w_iconst (v := 0) (n' := 19) dX2_begin_18 rfl rfl ?_
    refine w_istore_n (i := 3) (n' := 20) (ls' := [_, _, _, _]) dX2_begin_19 rfl rfl (Nat.le_of_ble_eq_true rfl) rfl rfl ?_
    have L : ∀ (i : Nat) (s : Mem), i ≤ 40 → s = upR (upR mem k (upd (upd (mem k) 1 b) 2 (if b = 0 then 0 else n))) (k + 1) (zer (mem (k + 1)) i) → Wm mX2_begin (zM mX2_begin (fun r' m' => r' = none ∧ m' = (shBeg mem k b n))) 20 [some (.ref k), some (.int b), some (.int n), some (.int (nI i))] [] s := by
      refine for_ind 40 ?_
      intro i s hi h1 ih
      subst h1
      refine w_iload_n (i := 3) (n' := 21) dX2_begin_20 rfl rfl rfl ?_
      refine w_bipush (v := 40) (n' := 23) dX2_begin_21 rfl (by decide) ?_
      refine w_icmp_ge (n' := 26) (tgt := 39) dX2_begin_23 rfl rfl (fun h23 => ?_) (fun h23 => ?_)
      · have hin : i = 40 := by
          rcases Nat.lt_or_ge i 40 with q | q
          · exact absurd h23 (by exact nI_ge (b := 40) q (by omega))
          · omega
        subst hin
        exact w_vret dX2_begin_39 rfl ⟨rfl, rfl⟩
      · have hlt : i < 40 := by
          rcases Nat.lt_or_ge i 40 with q | q
          · exact q
          · exact absurd (by exact nI_le (a := 40) q (by omega)) h23
        refine w_aload_n (i := 0) (n' := 27) dX2_begin_26 rfl rfl rfl ?_
        refine w_get (ci := 2) (j := 0) (n' := 30) dX2_begin_27 rfl fRX2_9 (Nat.le_of_ble_eq_true rfl) (Nat.le_of_ble_eq_true rfl) hk rfl ?_
        refine w_iload_n (i := 3) (n' := 31) dX2_begin_30 rfl rfl rfl ?_
        refine w_iconst (v := 0) (n' := 32) dX2_begin_31 rfl rfl ?_
        refine w_iast (n := i) (n' := 33) dX2_begin_32 rfl (kSh hk).1 rfl (by rw [(kSh hk).2]; exact hlt) ?_
        refine w_iinc (n' := 36) (v := nI (i + 1)) (ls' := [_, _, _, _]) dX2_begin_33 rfl rfl (nI_1 i) (Nat.le_of_ble_eq_true rfl) rfl rfl ?_
        refine w_goto (tgt := 20) dX2_begin_36 rfl ?_
        exact ih hlt _ (by rw [up2_eq, upR_same, upR_upR, zer_succ])
    exact L 0 _ (Nat.zero_le _) (by rw [zer_0, show upR (upR mem k (upd (upd (mem k) 1 b) 2 (if b = 0 then 0 else n))) (k + 1) (mem (k + 1)) = (upR mem k (upd (upd (mem k) 1 b) 2 (if b = 0 then 0 else n))) from by funext a; by_cases h : a = k + 1 <;> simp [upR, h]]; simp [up2_eq, upR_same, upR_upR, h7])
set_option maxHeartbeats 4000000 in
theorem c_refusalOfSheet (s : Int32) (mem : Mem) : CnE mX5_refusalOfSheet [.ref 0, .int s] mem (some (.int (refS mem s))) mem := by
  refine Cn.of (ls := [some (.ref 0), some (.int s)]) (by decide) rfl (Nat.le_of_ble_eq_true rfl) ?_
  refine w_iload_n (i := 1) (n' := 1) dX5_refusalOfSheet_0 rfl rfl rfl ?_
  refine w_iconst (v := 0) (n' := 2) dX5_refusalOfSheet_1 rfl rfl ?_
  refine w_iconst (v := 3) (n' := 3) dX5_refusalOfSheet_2 rfl rfl ?_
  refine s_E (n' := 6) dX5_refusalOfSheet_3 rfl lRX5_53 okX5_within stX5_within ⟨⟨Nat.le_of_ble_eq_true rfl, Nat.le_of_ble_eq_true rfl⟩, Nat.le_of_ble_eq_true rfl, Nat.le_of_ble_eq_true rfl⟩ (c_within _ _ _ _) rfl rfl (Nat.le_of_ble_eq_true rfl) ?_
  refine w_if_ne (n' := 9) (tgt := 11) dX5_refusalOfSheet_6 rfl rfl (fun h6 => ?_) (fun h6 => ?_)
  · obtain ⟨q, hq1, hq2⟩ := inR_of (N := 3) (by decide) h6
    refine w_aload_n (i := 0) (n' := 12) dX5_refusalOfSheet_11 rfl rfl rfl ?_
    refine w_get (ci := 5) (j := 5) (n' := 15) dX5_refusalOfSheet_12 rfl fRX5_40 (Nat.le_of_ble_eq_true rfl) (Nat.le_of_ble_eq_true rfl) rfl rfl ?_
    refine w_iload_n (i := 1) (n' := 16) dX5_refusalOfSheet_15 rfl rfl rfl ?_
    refine w_aaldS (n := q) (n' := 17) dX5_refusalOfSheet_16 rfl rfl hq2 (show q < 4 by omega) ?_
    refine v_E (ci := 2) (n' := 20) dX5_refusalOfSheet_17 rfl lRX5_255 okX2_isMissing voX2_isMissing ⟨⟨Nat.le_of_ble_eq_true rfl, Nat.le_of_ble_eq_true rfl⟩, Nat.le_of_ble_eq_true rfl, Nat.le_of_ble_eq_true rfl⟩ (c_isMissing (kS4 q (by omega)) _) rfl rfl (Nat.le_of_ble_eq_true rfl) (kS4 q (by omega)) (Nat.le_of_ble_eq_true rfl) rfl ?_
    refine w_if_eq (n' := 23) (tgt := 27) dX5_refusalOfSheet_20 rfl rfl (fun h20 => ?_) (fun h20 => ?_)
    · refine w_iconst (v := -1) (n' := 28) dX5_refusalOfSheet_27 rfl rfl ?_
      exact w_iret dX5_refusalOfSheet_28 rfl ⟨by rw [refS, if_neg h6, show s.toNatClampNeg = q by rw [hq2]; exact nI_clamp (by omega)]; by_cases z : mem (40 + 1 + 2 * q) 1 = 0 <;> simp_all, rfl⟩
    · refine w_iconst (v := 5) (n' := 24) dX5_refusalOfSheet_23 rfl rfl ?_
      refine w_goto (tgt := 28) dX5_refusalOfSheet_24 rfl ?_
      exact w_iret dX5_refusalOfSheet_28 rfl ⟨by rw [refS, if_neg h6, show s.toNatClampNeg = q by rw [hq2]; exact nI_clamp (by omega)]; by_cases z : mem (40 + 1 + 2 * q) 1 = 0 <;> simp_all, rfl⟩
  · refine w_iconst (v := 0) (n' := 10) dX5_refusalOfSheet_9 rfl rfl ?_
    exact w_iret dX5_refusalOfSheet_10 rfl ⟨by rw [refS, if_pos (by simpa using h6)], rfl⟩
theorem refS_c {m : Mem} {s : Int32} : (refS m s = 0 ∧ inR s 0 3 = 0) ∨ (∃ q, q < 4 ∧ s = nI q ∧ ¬ inR s 0 3 = 0 ∧ ((refS m s = 5 ∧ m (40 + 1 + 2 * q) 1 = 0) ∨ (refS m s = -1 ∧ ¬ m (40 + 1 + 2 * q) 1 = 0))) := by
  by_cases h : inR s 0 3 = 0
  · left; exact ⟨by rw [refS, if_pos h], h⟩
  · right
    obtain ⟨q, h1, h2⟩ := inR_of (N := 3) (by decide) h
    have e : s.toNatClampNeg = q := by rw [h2]; exact nI_clamp (by omega)
    refine ⟨q, by omega, h2, h, ?_⟩
    by_cases z : m (40 + 1 + 2 * q) 1 = 0
    · left; exact ⟨by rw [refS, if_neg h, e, if_pos z], z⟩
    · right; exact ⟨by rw [refS, if_neg h, e, if_neg z], z⟩
set_option maxHeartbeats 4000000 in
theorem c_refusalOfFit (s f : Int32) (mem : Mem) : CnE mX5_refusalOfFit [.ref 0, .int s, .int f] mem (some (.int (if refS mem s = -1 then (if inR f 0 (mem 1 3 - 1) = 0 then 0 else -1) else refS mem s))) mem := by
  refine Cn.of (ls := [some (.ref 0), some (.int s), some (.int f), none]) (by decide) rfl (Nat.le_of_ble_eq_true rfl) ?_
  refine w_aload_n (i := 0) (n' := 1) dX5_refusalOfFit_0 rfl rfl rfl ?_
  refine w_iload_n (i := 1) (n' := 2) dX5_refusalOfFit_1 rfl rfl rfl ?_
  refine v_E (ci := 5) (n' := 5) dX5_refusalOfFit_2 rfl lRX5_211 okX5_refusalOfSheet voX5_refusalOfSheet ⟨⟨Nat.le_of_ble_eq_true rfl, Nat.le_of_ble_eq_true rfl⟩, Nat.le_of_ble_eq_true rfl, Nat.le_of_ble_eq_true rfl⟩ (c_refusalOfSheet _ _) rfl rfl (Nat.le_of_ble_eq_true rfl) rfl (Nat.le_of_ble_eq_true rfl) rfl ?_
  refine w_istore_n (i := 3) (n' := 6) (ls' := [_, _, _, _]) dX5_refusalOfFit_5 rfl rfl (Nat.le_of_ble_eq_true rfl) rfl rfl ?_
  refine w_iload_n (i := 3) (n' := 7) dX5_refusalOfFit_6 rfl rfl rfl ?_
  refine w_iconst (v := -1) (n' := 8) dX5_refusalOfFit_7 rfl rfl ?_
  refine w_icmp_eq (n' := 11) (tgt := 13) dX5_refusalOfFit_8 rfl rfl (fun h8 => ?_) (fun h8 => ?_)
  · refine w_aload_n (i := 0) (n' := 14) dX5_refusalOfFit_13 rfl rfl rfl ?_
    refine w_get (ci := 5) (j := 0) (n' := 17) dX5_refusalOfFit_14 rfl fRX5_10 (Nat.le_of_ble_eq_true rfl) (Nat.le_of_ble_eq_true rfl) rfl rfl ?_
    refine w_iload_n (i := 2) (n' := 18) dX5_refusalOfFit_17 rfl rfl rfl ?_
    refine v_E (ci := 1) (n' := 21) dX5_refusalOfFit_18 rfl lRX5_78 okX1_hasFarm voX1_hasFarm ⟨⟨Nat.le_of_ble_eq_true rfl, Nat.le_of_ble_eq_true rfl⟩, Nat.le_of_ble_eq_true rfl, Nat.le_of_ble_eq_true rfl⟩ (c_hasFarm rfl _ _) rfl rfl (Nat.le_of_ble_eq_true rfl) rfl (Nat.le_of_ble_eq_true rfl) rfl ?_
    refine w_if_eq (n' := 24) (tgt := 28) dX5_refusalOfFit_21 rfl rfl (fun h21 => ?_) (fun h21 => ?_)
    · refine w_iconst (v := 0) (n' := 29) dX5_refusalOfFit_28 rfl rfl ?_
      exact w_iret dX5_refusalOfFit_29 rfl ⟨by simp [*], rfl⟩
    · refine w_iconst (v := -1) (n' := 25) dX5_refusalOfFit_24 rfl rfl ?_
      refine w_goto (tgt := 29) dX5_refusalOfFit_25 rfl ?_
      exact w_iret dX5_refusalOfFit_29 rfl ⟨by simp [*], rfl⟩
  · refine w_iload_n (i := 3) (n' := 12) dX5_refusalOfFit_11 rfl rfl rfl ?_
    exact w_iret dX5_refusalOfFit_12 rfl ⟨by simp [*], rfl⟩
set_option maxHeartbeats 4000000 in
theorem c5_sheet (s b n : Int32) (mem : Mem) : CnI mX5_sheet [.ref 0, .int s, .int b, .int n] mem (fun x m' => ((inR s 0 3 = 0 ∨ hasB b = 0) ∧ x = -1000001 ∧ m' = fnd mem 0) ∨ (¬ inR s 0 3 = 0 ∧ ¬ hasB b = 0 ∧ n < 0 ∧ x = -1000007 ∧ m' = fnd mem 6) ∨ (¬ inR s 0 3 = 0 ∧ ¬ hasB b = 0 ∧ ¬ n < 0 ∧ 40 < n ∧ x = -1000001 ∧ m' = fnd mem 0) ∨ (∃ q, q < 4 ∧ s = nI q ∧ ¬ inR s 0 3 = 0 ∧ ¬ hasB b = 0 ∧ ¬ n < 0 ∧ ¬ 40 < n ∧ x = (if b = 0 then 0 else n) ∧ m' = shBeg mem (40 + 1 + 2 * q) b n)) := by
  refine Cn.of (ls := [some (.ref 0), some (.int s), some (.int b), some (.int n)]) (by decide) rfl (Nat.le_of_ble_eq_true rfl) ?_
  refine w_iload_n (i := 1) (n' := 1) dX5_sheet_0 rfl rfl rfl ?_
  refine w_iconst (v := 0) (n' := 2) dX5_sheet_1 rfl rfl ?_
  refine w_iconst (v := 3) (n' := 3) dX5_sheet_2 rfl rfl ?_
  refine s_E (n' := 6) dX5_sheet_3 rfl lRX5_53 okX5_within stX5_within ⟨⟨Nat.le_of_ble_eq_true rfl, Nat.le_of_ble_eq_true rfl⟩, Nat.le_of_ble_eq_true rfl, Nat.le_of_ble_eq_true rfl⟩ (c_within _ _ _ _) rfl rfl (Nat.le_of_ble_eq_true rfl) ?_
  refine w_if_eq (n' := 9) (tgt := 16) dX5_sheet_6 rfl rfl (fun h6 => ?_) (fun h6 => ?_)
  · refine w_aload_n (i := 0) (n' := 17) dX5_sheet_16 rfl rfl rfl ?_
    refine w_iconst (v := 0) (n' := 18) dX5_sheet_17 rfl rfl ?_
    refine v_E (ci := 5) (n' := 21) dX5_sheet_18 rfl lRX5_57 okX5_finding voX5_finding ⟨⟨Nat.le_of_ble_eq_true rfl, Nat.le_of_ble_eq_true rfl⟩, Nat.le_of_ble_eq_true rfl, Nat.le_of_ble_eq_true rfl⟩ (c_finding 0 _ (by decide) (by decide) _) rfl rfl (Nat.le_of_ble_eq_true rfl) rfl (Nat.le_of_ble_eq_true rfl) rfl ?_
    exact w_iret dX5_sheet_21 rfl ⟨_, rfl, Or.inl ⟨Or.inl h6, rfl, rfl⟩⟩
  · refine w_iload_n (i := 2) (n' := 10) dX5_sheet_9 rfl rfl rfl ?_
    refine s_E (n' := 13) dX5_sheet_10 rfl lRX5_246 okX2_mayHave stX2_mayHave ⟨⟨Nat.le_of_ble_eq_true rfl, Nat.le_of_ble_eq_true rfl⟩, Nat.le_of_ble_eq_true rfl, Nat.le_of_ble_eq_true rfl⟩ (c_mayHave _ _) rfl rfl (Nat.le_of_ble_eq_true rfl) ?_
    refine w_if_ne (n' := 16) (tgt := 22) dX5_sheet_13 rfl rfl (fun h13 => ?_) (fun h13 => ?_)
    · refine w_iload_n (i := 3) (n' := 23) dX5_sheet_22 rfl rfl rfl ?_
      refine w_if_ge (n' := 26) (tgt := 33) dX5_sheet_23 rfl rfl (fun h23 => ?_) (fun h23 => ?_)
      · have h23n : ¬ n < 0 := Int32.not_lt.mpr h23
        refine w_iload_n (i := 3) (n' := 34) dX5_sheet_33 rfl rfl rfl ?_
        refine w_bipush (v := 40) (n' := 36) dX5_sheet_34 rfl (by decide) ?_
        refine w_icmp_le (n' := 39) (tgt := 45) dX5_sheet_36 rfl rfl (fun h36 => ?_) (fun h36 => ?_)
        · have h36n : ¬ 40 < n := Int32.not_lt.mpr h36
          obtain ⟨q, hq1, hq2⟩ := inR_of (N := 3) (by decide) h6
          refine w_aload_n (i := 0) (n' := 46) dX5_sheet_45 rfl rfl rfl ?_
          refine w_get (ci := 5) (j := 5) (n' := 49) dX5_sheet_46 rfl fRX5_40 (Nat.le_of_ble_eq_true rfl) (Nat.le_of_ble_eq_true rfl) rfl rfl ?_
          refine w_iload_n (i := 1) (n' := 50) dX5_sheet_49 rfl rfl rfl ?_
          refine w_aaldS (n := q) (n' := 51) dX5_sheet_50 rfl rfl hq2 (show q < 4 by omega) ?_
          refine w_iload_n (i := 2) (n' := 52) dX5_sheet_51 rfl rfl rfl ?_
          refine w_iload_n (i := 3) (n' := 53) dX5_sheet_52 rfl rfl rfl ?_
          refine v_E (ci := 2) (n' := 56) dX5_sheet_53 rfl lRX5_249 okX2_begin voX2_begin ⟨⟨Nat.le_of_ble_eq_true rfl, Nat.le_of_ble_eq_true rfl⟩, Nat.le_of_ble_eq_true rfl, Nat.le_of_ble_eq_true rfl⟩ (c_shBegin (kS4 q (by omega)) _ _ _) rfl rfl (Nat.le_of_ble_eq_true rfl) (kS4 q (by omega)) (Nat.le_of_ble_eq_true rfl) rfl ?_
          refine w_aload_n (i := 0) (n' := 57) dX5_sheet_56 rfl rfl rfl ?_
          refine w_get (ci := 5) (j := 5) (n' := 60) dX5_sheet_57 rfl fRX5_40 (Nat.le_of_ble_eq_true rfl) (Nat.le_of_ble_eq_true rfl) rfl rfl ?_
          refine w_iload_n (i := 1) (n' := 61) dX5_sheet_60 rfl rfl rfl ?_
          refine w_aaldS (n := q) (n' := 62) dX5_sheet_61 rfl rfl hq2 (show q < 4 by omega) ?_
          refine w_get (ci := 2) (j := 2) (n' := 65) dX5_sheet_62 rfl fRX5_214 (Nat.le_of_ble_eq_true rfl) (Nat.le_of_ble_eq_true rfl) (kS4 q (by omega)) rfl ?_
          exact w_iret dX5_sheet_65 rfl ⟨_, rfl, Or.inr (Or.inr (Or.inr ⟨q, by omega, hq2, h6, h13, h23n, h36n, by simp [shBeg, upR, upd], rfl⟩))⟩
        · have h36 : 40 < n := Int32.not_le.mp h36
          refine w_aload_n (i := 0) (n' := 40) dX5_sheet_39 rfl rfl rfl ?_
          refine w_iconst (v := 0) (n' := 41) dX5_sheet_40 rfl rfl ?_
          refine v_E (ci := 5) (n' := 44) dX5_sheet_41 rfl lRX5_57 okX5_finding voX5_finding ⟨⟨Nat.le_of_ble_eq_true rfl, Nat.le_of_ble_eq_true rfl⟩, Nat.le_of_ble_eq_true rfl, Nat.le_of_ble_eq_true rfl⟩ (c_finding 0 _ (by decide) (by decide) _) rfl rfl (Nat.le_of_ble_eq_true rfl) rfl (Nat.le_of_ble_eq_true rfl) rfl ?_
          exact w_iret dX5_sheet_44 rfl ⟨_, rfl, Or.inr (Or.inr (Or.inl ⟨h6, h13, h23n, h36, rfl, rfl⟩))⟩
      · have h23 : n < 0 := Int32.not_le.mp h23
        refine w_aload_n (i := 0) (n' := 27) dX5_sheet_26 rfl rfl rfl ?_
        refine w_bipush (v := 6) (n' := 29) dX5_sheet_27 rfl (by decide) ?_
        refine v_E (ci := 5) (n' := 32) dX5_sheet_29 rfl lRX5_57 okX5_finding voX5_finding ⟨⟨Nat.le_of_ble_eq_true rfl, Nat.le_of_ble_eq_true rfl⟩, Nat.le_of_ble_eq_true rfl, Nat.le_of_ble_eq_true rfl⟩ (c_finding 6 _ (by decide) (by decide) _) rfl rfl (Nat.le_of_ble_eq_true rfl) rfl (Nat.le_of_ble_eq_true rfl) rfl ?_
        exact w_iret dX5_sheet_32 rfl ⟨_, rfl, Or.inr (Or.inl ⟨h6, h13, by simpa using h23, rfl, rfl⟩)⟩
    · refine w_aload_n (i := 0) (n' := 17) dX5_sheet_16 rfl rfl rfl ?_
      refine w_iconst (v := 0) (n' := 18) dX5_sheet_17 rfl rfl ?_
      refine v_E (ci := 5) (n' := 21) dX5_sheet_18 rfl lRX5_57 okX5_finding voX5_finding ⟨⟨Nat.le_of_ble_eq_true rfl, Nat.le_of_ble_eq_true rfl⟩, Nat.le_of_ble_eq_true rfl, Nat.le_of_ble_eq_true rfl⟩ (c_finding 0 _ (by decide) (by decide) _) rfl rfl (Nat.le_of_ble_eq_true rfl) rfl (Nat.le_of_ble_eq_true rfl) rfl ?_
      exact w_iret dX5_sheet_21 rfl ⟨_, rfl, Or.inl ⟨Or.inr (by simpa using h13), rfl, rfl⟩⟩
set_option maxHeartbeats 4000000 in
theorem c5_write (s a v : Int32) (mem : Mem) (hl : ∀ q, q < 4 → ∃ z, z ≤ 40 ∧ mem (40 + 1 + 2 * q) 2 = nI z) : CnI mX5_write [.ref 0, .int s, .int a, .int v] mem (fun x m' => (inR s 0 3 = 0 ∧ x = -1000001 ∧ m' = fnd mem 0) ∨ (∃ q, q < 4 ∧ s = nI q ∧ ¬ inR s 0 3 = 0 ∧ ((mem (40 + 1 + 2 * q) 1 = 0 ∧ x = -1000006 ∧ m' = fnd mem 5) ∨ (¬ mem (40 + 1 + 2 * q) 1 = 0 ∧ ((inR a 0 (mem (40 + 1 + 2 * q) 2 - 1) = 0 ∧ x = -1000001 ∧ m' = fnd mem 0) ∨ (∃ i z, mem (40 + 1 + 2 * q) 2 = nI z ∧ z ≤ 40 ∧ i < z ∧ a = nI i ∧ x = 1 ∧ m' = up2 mem (40 + 1 + 2 * q + 1) i (cutB (mem (40 + 1 + 2 * q) 1) v))))))) := by
  refine Cn.of (ls := [some (.ref 0), some (.int s), some (.int a), some (.int v), none]) (by decide) rfl (Nat.le_of_ble_eq_true rfl) ?_
  refine w_aload_n (i := 0) (n' := 1) dX5_write_0 rfl rfl rfl ?_
  refine w_iload_n (i := 1) (n' := 2) dX5_write_1 rfl rfl rfl ?_
  refine v_E (ci := 5) (n' := 5) dX5_write_2 rfl lRX5_211 okX5_refusalOfSheet voX5_refusalOfSheet ⟨⟨Nat.le_of_ble_eq_true rfl, Nat.le_of_ble_eq_true rfl⟩, Nat.le_of_ble_eq_true rfl, Nat.le_of_ble_eq_true rfl⟩ (c_refusalOfSheet _ _) rfl rfl (Nat.le_of_ble_eq_true rfl) rfl (Nat.le_of_ble_eq_true rfl) rfl ?_
  rcases refS_c (m := mem) (s := s) with ⟨e, e2⟩ | ⟨q, hq1, hq2, hq3, ⟨e, e2⟩ | ⟨e, e2⟩⟩
  · rw [e]
    try dsimp only [Option.toList, List.cons_append, List.nil_append]
    refine w_istore (n' := 7) (ls' := [_, _, _, _, _]) dX5_write_5 rfl (Nat.le_of_ble_eq_true rfl) rfl rfl ?_
    refine w_iload (n' := 9) dX5_write_7 rfl rfl ?_
    refine w_iconst (v := -1) (n' := 10) dX5_write_9 rfl rfl ?_
    refine w_icmp_eq (n' := 13) (tgt := 20) dX5_write_10 rfl rfl (fun h10 => absurd h10 (by decide)) (fun h10 => ?_)
    refine w_aload_n (i := 0) (n' := 14) dX5_write_13 rfl rfl rfl ?_
    refine w_iload (n' := 16) dX5_write_14 rfl rfl ?_
    refine v_E (ci := 5) (n' := 19) dX5_write_16 rfl lRX5_57 okX5_finding voX5_finding ⟨⟨Nat.le_of_ble_eq_true rfl, Nat.le_of_ble_eq_true rfl⟩, Nat.le_of_ble_eq_true rfl, Nat.le_of_ble_eq_true rfl⟩ (c_finding 0 _ (by decide) (by decide) _) rfl rfl (Nat.le_of_ble_eq_true rfl) rfl (Nat.le_of_ble_eq_true rfl) rfl ?_
    exact w_iret dX5_write_19 rfl ⟨_, rfl, Or.inl ⟨e2, rfl, rfl⟩⟩
  · rw [e]
    try dsimp only [Option.toList, List.cons_append, List.nil_append]
    refine w_istore (n' := 7) (ls' := [_, _, _, _, _]) dX5_write_5 rfl (Nat.le_of_ble_eq_true rfl) rfl rfl ?_
    refine w_iload (n' := 9) dX5_write_7 rfl rfl ?_
    refine w_iconst (v := -1) (n' := 10) dX5_write_9 rfl rfl ?_
    refine w_icmp_eq (n' := 13) (tgt := 20) dX5_write_10 rfl rfl (fun h10 => absurd h10 (by decide)) (fun h10 => ?_)
    refine w_aload_n (i := 0) (n' := 14) dX5_write_13 rfl rfl rfl ?_
    refine w_iload (n' := 16) dX5_write_14 rfl rfl ?_
    refine v_E (ci := 5) (n' := 19) dX5_write_16 rfl lRX5_57 okX5_finding voX5_finding ⟨⟨Nat.le_of_ble_eq_true rfl, Nat.le_of_ble_eq_true rfl⟩, Nat.le_of_ble_eq_true rfl, Nat.le_of_ble_eq_true rfl⟩ (c_finding 5 _ (by decide) (by decide) _) rfl rfl (Nat.le_of_ble_eq_true rfl) rfl (Nat.le_of_ble_eq_true rfl) rfl ?_
    exact w_iret dX5_write_19 rfl ⟨_, rfl, Or.inr ⟨q, hq1, hq2, hq3, Or.inl ⟨e2, rfl, rfl⟩⟩⟩
  · rw [e]
    try dsimp only [Option.toList, List.cons_append, List.nil_append]
    obtain ⟨z, hz1, hz2⟩ := hl q hq1
    refine w_istore (n' := 7) (ls' := [_, _, _, _, _]) dX5_write_5 rfl (Nat.le_of_ble_eq_true rfl) rfl rfl ?_
    refine w_iload (n' := 9) dX5_write_7 rfl rfl ?_
    refine w_iconst (v := -1) (n' := 10) dX5_write_9 rfl rfl ?_
    refine w_icmp_eq (n' := 13) (tgt := 20) dX5_write_10 rfl rfl (fun h10 => ?_) (fun h10 => absurd rfl h10)
    refine w_iload_n (i := 2) (n' := 21) dX5_write_20 rfl rfl rfl ?_
    refine w_iconst (v := 0) (n' := 22) dX5_write_21 rfl rfl ?_
    refine w_aload_n (i := 0) (n' := 23) dX5_write_22 rfl rfl rfl ?_
    refine w_get (ci := 5) (j := 5) (n' := 26) dX5_write_23 rfl fRX5_40 (Nat.le_of_ble_eq_true rfl) (Nat.le_of_ble_eq_true rfl) rfl rfl ?_
    refine w_iload_n (i := 1) (n' := 27) dX5_write_26 rfl rfl rfl ?_
    refine w_aaldS (n := q) (n' := 28) dX5_write_27 rfl rfl hq2 (show q < 4 by omega) ?_
    refine w_get (ci := 2) (j := 2) (n' := 31) dX5_write_28 rfl fRX5_214 (Nat.le_of_ble_eq_true rfl) (Nat.le_of_ble_eq_true rfl) (kS4 q (by omega)) rfl ?_
    refine w_iconst (v := 1) (n' := 32) dX5_write_31 rfl rfl ?_
    refine w_isub (n' := 33) dX5_write_32 rfl ?_
    refine s_E (n' := 36) dX5_write_33 rfl lRX5_53 okX5_within stX5_within ⟨⟨Nat.le_of_ble_eq_true rfl, Nat.le_of_ble_eq_true rfl⟩, Nat.le_of_ble_eq_true rfl, Nat.le_of_ble_eq_true rfl⟩ (c_within _ _ _ _) rfl rfl (Nat.le_of_ble_eq_true rfl) ?_
    refine w_if_ne (n' := 39) (tgt := 45) dX5_write_36 rfl rfl (fun h36 => ?_) (fun h36 => ?_)
    · obtain ⟨i, hi1, hi2⟩ := hasF_of (n := z) (by omega) (by rw [← hz2]; exact h36)
      refine w_aload_n (i := 0) (n' := 46) dX5_write_45 rfl rfl rfl ?_
      refine w_get (ci := 5) (j := 5) (n' := 49) dX5_write_46 rfl fRX5_40 (Nat.le_of_ble_eq_true rfl) (Nat.le_of_ble_eq_true rfl) rfl rfl ?_
      refine w_iload_n (i := 1) (n' := 50) dX5_write_49 rfl rfl rfl ?_
      refine w_aaldS (n := q) (n' := 51) dX5_write_50 rfl rfl hq2 (show q < 4 by omega) ?_
      refine w_iload_n (i := 2) (n' := 52) dX5_write_51 rfl rfl rfl ?_
      refine w_iload_n (i := 3) (n' := 53) dX5_write_52 rfl rfl rfl ?_
      refine v_E (ci := 2) (n' := 56) dX5_write_53 rfl lRX5_252 okX2_put voX2_put ⟨⟨Nat.le_of_ble_eq_true rfl, Nat.le_of_ble_eq_true rfl⟩, Nat.le_of_ble_eq_true rfl, Nat.le_of_ble_eq_true rfl⟩ (c_put (kS4 q (by omega)) _ _ hi2 (by omega) _) rfl rfl (Nat.le_of_ble_eq_true rfl) (kS4 q (by omega)) (Nat.le_of_ble_eq_true rfl) rfl ?_
      refine w_iconst (v := 1) (n' := 57) dX5_write_56 rfl rfl ?_
      exact w_iret dX5_write_57 rfl ⟨_, rfl, Or.inr ⟨q, hq1, hq2, hq3, Or.inr ⟨e2, Or.inr ⟨i, z, hz2, hz1, hi1, hi2, rfl, rfl⟩⟩⟩⟩
    · refine w_aload_n (i := 0) (n' := 40) dX5_write_39 rfl rfl rfl ?_
      refine w_iconst (v := 0) (n' := 41) dX5_write_40 rfl rfl ?_
      refine v_E (ci := 5) (n' := 44) dX5_write_41 rfl lRX5_57 okX5_finding voX5_finding ⟨⟨Nat.le_of_ble_eq_true rfl, Nat.le_of_ble_eq_true rfl⟩, Nat.le_of_ble_eq_true rfl, Nat.le_of_ble_eq_true rfl⟩ (c_finding 0 _ (by decide) (by decide) _) rfl rfl (Nat.le_of_ble_eq_true rfl) rfl (Nat.le_of_ble_eq_true rfl) rfl ?_
      exact w_iret dX5_write_44 rfl ⟨_, rfl, Or.inr ⟨q, hq1, hq2, hq3, Or.inr ⟨e2, Or.inl ⟨by simpa using h36, rfl, rfl⟩⟩⟩⟩
theorem hasR_c {z : Nat} {a n : Int32} (hz : z ≤ 40) (h : ¬ hasR (nI z) a n = 0) : ∃ i k, a = nI i ∧ n = nI k ∧ i + k ≤ z := by
  unfold hasR at h
  by_cases h1 : a < 0
  · simp [h1] at h
  · by_cases h2 : n < 0
    · simp [h1, h2] at h
    · by_cases h3 : nI z - a < n
      · simp [h1, h2, h3] at h
      · obtain ⟨i, hi1, hi2⟩ := nI_of h1
        obtain ⟨k, hk1, hk2⟩ := nI_of h2
        refine ⟨i, k, hi2, hk2, ?_⟩
        rw [hi2, hk2, Int32.lt_iff_toInt_lt] at h3
        have e1 : (nI z - nI i).toInt = (z : Int) - i := by
          rw [Int32.toInt_sub, nI_toInt (by omega), nI_toInt hi1]
          exact Int.bmod_eq_of_le (by omega) (by omega)
        rw [e1, nI_toInt hk1] at h3
        omega
set_option maxHeartbeats 4000000 in
theorem c5_copy (s a t b n : Int32) (mem : Mem) (hl : ∀ q, q < 4 → ∃ z, z ≤ 40 ∧ mem (40 + 1 + 2 * q) 2 = nI z) : CnI mX5_copy [.ref 0, .int s, .int a, .int t, .int b, .int n] mem (fun x m' => ((inR s 0 3 = 0 ∨ inR t 0 3 = 0) ∧ x = -1000001 ∧ m' = fnd mem 0) ∨ (∃ q r, q < 4 ∧ s = nI q ∧ r < 4 ∧ t = nI r ∧ ¬ inR s 0 3 = 0 ∧ ¬ inR t 0 3 = 0 ∧ (((mem (40 + 1 + 2 * q) 1 = 0 ∨ mem (40 + 1 + 2 * r) 1 = 0) ∧ x = -1000006 ∧ m' = fnd mem 5) ∨ (¬ mem (40 + 1 + 2 * q) 1 = 0 ∧ ¬ mem (40 + 1 + 2 * r) 1 = 0 ∧ ((¬ mem (40 + 1 + 2 * q) 1 = mem (40 + 1 + 2 * r) 1 ∧ x = -1000003 ∧ m' = fnd mem 2) ∨ (mem (40 + 1 + 2 * q) 1 = mem (40 + 1 + 2 * r) 1 ∧ (((hasR (mem (40 + 1 + 2 * q) 2) a n = 0 ∨ hasR (mem (40 + 1 + 2 * r) 2) b n = 0) ∧ x = -1000001 ∧ m' = fnd mem 0) ∨ (¬ hasR (mem (40 + 1 + 2 * q) 2) a n = 0 ∧ ¬ hasR (mem (40 + 1 + 2 * r) 2) b n = 0 ∧ ∃ i j k, a = nI i ∧ b = nI j ∧ n = nI k ∧ i + k ≤ 40 ∧ j + k ≤ 40 ∧ x = n ∧ m' = upR mem (40 + 1 + 2 * r + 1) (va_cpy (mem (40 + 1 + 2 * q + 1)) (mem (40 + 1 + 2 * r + 1)) i j k))))))))) := by
  refine Cn.of (ls := [some (.ref 0), some (.int s), some (.int a), some (.int t), some (.int b), some (.int n), none, none]) (by decide) rfl (Nat.le_of_ble_eq_true rfl) ?_
  refine w_iload_n (i := 1) (n' := 1) dX5_copy_0 rfl rfl rfl ?_
  refine w_iconst (v := 0) (n' := 2) dX5_copy_1 rfl rfl ?_
  refine w_iconst (v := 3) (n' := 3) dX5_copy_2 rfl rfl ?_
  refine s_E (n' := 6) dX5_copy_3 rfl lRX5_53 okX5_within stX5_within ⟨⟨Nat.le_of_ble_eq_true rfl, Nat.le_of_ble_eq_true rfl⟩, Nat.le_of_ble_eq_true rfl, Nat.le_of_ble_eq_true rfl⟩ (c_within _ _ _ _) rfl rfl (Nat.le_of_ble_eq_true rfl) ?_
  refine w_if_eq (n' := 9) (tgt := 18) dX5_copy_6 rfl rfl (fun h6 => ?_) (fun h6 => ?_)
  · refine w_aload_n (i := 0) (n' := 19) dX5_copy_18 rfl rfl rfl ?_
    refine w_iconst (v := 0) (n' := 20) dX5_copy_19 rfl rfl ?_
    refine v_E (ci := 5) (n' := 23) dX5_copy_20 rfl lRX5_57 okX5_finding voX5_finding ⟨⟨Nat.le_of_ble_eq_true rfl, Nat.le_of_ble_eq_true rfl⟩, Nat.le_of_ble_eq_true rfl, Nat.le_of_ble_eq_true rfl⟩ (c_finding 0 _ (by decide) (by decide) _) rfl rfl (Nat.le_of_ble_eq_true rfl) rfl (Nat.le_of_ble_eq_true rfl) rfl ?_
    exact w_iret dX5_copy_23 rfl ⟨_, rfl, Or.inl ⟨Or.inl h6, rfl, rfl⟩⟩
  · refine w_iload_n (i := 3) (n' := 10) dX5_copy_9 rfl rfl rfl ?_
    refine w_iconst (v := 0) (n' := 11) dX5_copy_10 rfl rfl ?_
    refine w_iconst (v := 3) (n' := 12) dX5_copy_11 rfl rfl ?_
    refine s_E (n' := 15) dX5_copy_12 rfl lRX5_53 okX5_within stX5_within ⟨⟨Nat.le_of_ble_eq_true rfl, Nat.le_of_ble_eq_true rfl⟩, Nat.le_of_ble_eq_true rfl, Nat.le_of_ble_eq_true rfl⟩ (c_within _ _ _ _) rfl rfl (Nat.le_of_ble_eq_true rfl) ?_
    refine w_if_ne (n' := 18) (tgt := 24) dX5_copy_15 rfl rfl (fun h15 => ?_) (fun h15 => ?_)
    · obtain ⟨q, hq1, hq2⟩ := inR_of (N := 3) (by decide) h6
      obtain ⟨r, hr1, hr2⟩ := inR_of (N := 3) (by decide) h15
      obtain ⟨zq, hzq1, hzq2⟩ := hl q (by omega)
      obtain ⟨zr, hzr1, hzr2⟩ := hl r (by omega)
      refine w_aload_n (i := 0) (n' := 25) dX5_copy_24 rfl rfl rfl ?_
      refine w_get (ci := 5) (j := 5) (n' := 28) dX5_copy_25 rfl fRX5_40 (Nat.le_of_ble_eq_true rfl) (Nat.le_of_ble_eq_true rfl) rfl rfl ?_
      refine w_iload_n (i := 1) (n' := 29) dX5_copy_28 rfl rfl rfl ?_
      refine w_aaldS (n := q) (n' := 30) dX5_copy_29 rfl rfl hq2 (show q < 4 by omega) ?_
      refine w_astore (n' := 32) (ls' := [_, _, _, _, _, _, _, _]) dX5_copy_30 rfl (Nat.le_of_ble_eq_true rfl) rfl rfl ?_
      refine w_aload_n (i := 0) (n' := 33) dX5_copy_32 rfl rfl rfl ?_
      refine w_get (ci := 5) (j := 5) (n' := 36) dX5_copy_33 rfl fRX5_40 (Nat.le_of_ble_eq_true rfl) (Nat.le_of_ble_eq_true rfl) rfl rfl ?_
      refine w_iload_n (i := 3) (n' := 37) dX5_copy_36 rfl rfl rfl ?_
      refine w_aaldS (n := r) (n' := 38) dX5_copy_37 rfl rfl hr2 (show r < 4 by omega) ?_
      refine w_astore (n' := 40) (ls' := [_, _, _, _, _, _, _, _]) dX5_copy_38 rfl (Nat.le_of_ble_eq_true rfl) rfl rfl ?_
      refine w_aload (n' := 42) dX5_copy_40 rfl rfl ?_
      refine v_E (ci := 2) (n' := 45) dX5_copy_42 rfl lRX5_255 okX2_isMissing voX2_isMissing ⟨⟨Nat.le_of_ble_eq_true rfl, Nat.le_of_ble_eq_true rfl⟩, Nat.le_of_ble_eq_true rfl, Nat.le_of_ble_eq_true rfl⟩ (c_isMissing (kS4 q (by omega)) _) rfl rfl (Nat.le_of_ble_eq_true rfl) (kS4 q (by omega)) (Nat.le_of_ble_eq_true rfl) rfl ?_
      refine w_if_ne (n' := 48) (tgt := 56) dX5_copy_45 rfl rfl (fun h45 => ?_) (fun h45 => ?_)
      · have g1 : mem (40 + 1 + 2 * q) 1 = 0 := by
          by_cases z : mem (40 + 1 + 2 * q) 1 = 0
          · exact z
          · exact absurd (if_neg z) h45
        refine w_aload_n (i := 0) (n' := 57) dX5_copy_56 rfl rfl rfl ?_
        refine w_iconst (v := 5) (n' := 58) dX5_copy_57 rfl rfl ?_
        refine v_E (ci := 5) (n' := 61) dX5_copy_58 rfl lRX5_57 okX5_finding voX5_finding ⟨⟨Nat.le_of_ble_eq_true rfl, Nat.le_of_ble_eq_true rfl⟩, Nat.le_of_ble_eq_true rfl, Nat.le_of_ble_eq_true rfl⟩ (c_finding 5 _ (by decide) (by decide) _) rfl rfl (Nat.le_of_ble_eq_true rfl) rfl (Nat.le_of_ble_eq_true rfl) rfl ?_
        exact w_iret dX5_copy_61 rfl ⟨_, rfl, Or.inr ⟨q, r, by omega, hq2, by omega, hr2, h6, h15, Or.inl ⟨Or.inl g1, rfl, rfl⟩⟩⟩
      · have g1 : ¬ mem (40 + 1 + 2 * q) 1 = 0 := fun z => by
          rw [if_pos z] at h45
          exact absurd h45 (by decide)
        refine w_aload (n' := 50) dX5_copy_48 rfl rfl ?_
        refine v_E (ci := 2) (n' := 53) dX5_copy_50 rfl lRX5_255 okX2_isMissing voX2_isMissing ⟨⟨Nat.le_of_ble_eq_true rfl, Nat.le_of_ble_eq_true rfl⟩, Nat.le_of_ble_eq_true rfl, Nat.le_of_ble_eq_true rfl⟩ (c_isMissing (kS4 r (by omega)) _) rfl rfl (Nat.le_of_ble_eq_true rfl) (kS4 r (by omega)) (Nat.le_of_ble_eq_true rfl) rfl ?_
        refine w_if_eq (n' := 56) (tgt := 62) dX5_copy_53 rfl rfl (fun h53 => ?_) (fun h53 => ?_)
        · have g2 : ¬ mem (40 + 1 + 2 * r) 1 = 0 := fun z => by
            rw [if_pos z] at h53
            exact absurd h53 (by decide)
          refine w_aload (n' := 64) dX5_copy_62 rfl rfl ?_
          refine w_get (ci := 2) (j := 1) (n' := 67) dX5_copy_64 rfl fRX5_258 (Nat.le_of_ble_eq_true rfl) (Nat.le_of_ble_eq_true rfl) (kS4 q (by omega)) rfl ?_
          refine w_aload (n' := 69) dX5_copy_67 rfl rfl ?_
          refine w_get (ci := 2) (j := 1) (n' := 72) dX5_copy_69 rfl fRX5_258 (Nat.le_of_ble_eq_true rfl) (Nat.le_of_ble_eq_true rfl) (kS4 r (by omega)) rfl ?_
          refine w_icmp_eq (n' := 75) (tgt := 81) dX5_copy_72 rfl rfl (fun h72 => ?_) (fun h72 => ?_)
          · refine w_aload (n' := 83) dX5_copy_81 rfl rfl ?_
            refine w_iload_n (i := 2) (n' := 84) dX5_copy_83 rfl rfl rfl ?_
            refine w_iload (n' := 86) dX5_copy_84 rfl rfl ?_
            refine v_E (ci := 2) (n' := 89) dX5_copy_86 rfl lRX5_261 okX2_hasRow voX2_hasRow ⟨⟨Nat.le_of_ble_eq_true rfl, Nat.le_of_ble_eq_true rfl⟩, Nat.le_of_ble_eq_true rfl, Nat.le_of_ble_eq_true rfl⟩ (c_hasRow (kS4 q (by omega)) _ _ _) rfl rfl (Nat.le_of_ble_eq_true rfl) (kS4 q (by omega)) (Nat.le_of_ble_eq_true rfl) rfl ?_
            refine w_if_eq (n' := 92) (tgt := 104) dX5_copy_89 rfl rfl (fun h89 => ?_) (fun h89 => ?_)
            · refine w_aload_n (i := 0) (n' := 105) dX5_copy_104 rfl rfl rfl ?_
              refine w_iconst (v := 0) (n' := 106) dX5_copy_105 rfl rfl ?_
              refine v_E (ci := 5) (n' := 109) dX5_copy_106 rfl lRX5_57 okX5_finding voX5_finding ⟨⟨Nat.le_of_ble_eq_true rfl, Nat.le_of_ble_eq_true rfl⟩, Nat.le_of_ble_eq_true rfl, Nat.le_of_ble_eq_true rfl⟩ (c_finding 0 _ (by decide) (by decide) _) rfl rfl (Nat.le_of_ble_eq_true rfl) rfl (Nat.le_of_ble_eq_true rfl) rfl ?_
              exact w_iret dX5_copy_109 rfl ⟨_, rfl, Or.inr ⟨q, r, by omega, hq2, by omega, hr2, h6, h15, Or.inr ⟨g1, g2, Or.inr ⟨h72, Or.inl ⟨Or.inl h89, rfl, rfl⟩⟩⟩⟩⟩
            · refine w_aload (n' := 94) dX5_copy_92 rfl rfl ?_
              refine w_iload (n' := 96) dX5_copy_94 rfl rfl ?_
              refine w_iload (n' := 98) dX5_copy_96 rfl rfl ?_
              refine v_E (ci := 2) (n' := 101) dX5_copy_98 rfl lRX5_261 okX2_hasRow voX2_hasRow ⟨⟨Nat.le_of_ble_eq_true rfl, Nat.le_of_ble_eq_true rfl⟩, Nat.le_of_ble_eq_true rfl, Nat.le_of_ble_eq_true rfl⟩ (c_hasRow (kS4 r (by omega)) _ _ _) rfl rfl (Nat.le_of_ble_eq_true rfl) (kS4 r (by omega)) (Nat.le_of_ble_eq_true rfl) rfl ?_
              refine w_if_ne (n' := 104) (tgt := 110) dX5_copy_101 rfl rfl (fun h101 => ?_) (fun h101 => ?_)
              · obtain ⟨i, k, ei, ek, eik⟩ := hasR_c hzq1 (by rw [← hzq2]; exact h89)
                obtain ⟨j, k2, ej, ek2, ejk⟩ := hasR_c hzr1 (by rw [← hzr2]; exact h101)
                have ekk : k2 = k ∨ 40 < k ∨ 40 < k2 := by
                  rcases Nat.lt_or_ge 40 k with z | z
                  · exact Or.inr (Or.inl z)
                  · rcases Nat.lt_or_ge 40 k2 with z2 | z2
                    · exact Or.inr (Or.inr z2)
                    · exact Or.inl ((nI_eq (by omega) (by omega)).mp (ek2.symm.trans ek))
                have ekk : k2 = k := by omega
                subst ekk
                refine w_aload (n' := 112) dX5_copy_110 rfl rfl ?_
                refine w_get (ci := 2) (j := 0) (n' := 115) dX5_copy_112 rfl fRX5_217 (Nat.le_of_ble_eq_true rfl) (Nat.le_of_ble_eq_true rfl) (kS4 q (by omega)) rfl ?_
                refine w_iload_n (i := 2) (n' := 116) dX5_copy_115 rfl rfl rfl ?_
                refine w_aload (n' := 118) dX5_copy_116 rfl rfl ?_
                refine w_get (ci := 2) (j := 0) (n' := 121) dX5_copy_118 rfl fRX5_217 (Nat.le_of_ble_eq_true rfl) (Nat.le_of_ble_eq_true rfl) (kS4 r (by omega)) rfl ?_
                refine w_iload (n' := 123) dX5_copy_121 rfl rfl ?_
                refine w_iload (n' := 125) dX5_copy_123 rfl rfl ?_
                refine w_copy (a := i) (b := j) (n := k2) (n' := 128) dX5_copy_125 rfl lRX5_264 ⟨Nat.le_of_ble_eq_true rfl, Nat.le_of_ble_eq_true rfl⟩ (kSh (kS4 q (by omega))).1 (kSh (kS4 r (by omega))).1 ei ej ek2 (by rw [(kSh (kS4 q (by omega))).2]; omega) (by rw [(kSh (kS4 r (by omega))).2]; omega) ?_
                refine w_iload (n' := 130) dX5_copy_128 rfl rfl ?_
                exact w_iret dX5_copy_130 rfl ⟨_, rfl, Or.inr ⟨q, r, by omega, hq2, by omega, hr2, h6, h15, Or.inr ⟨g1, g2, Or.inr ⟨h72, Or.inr ⟨h89, h101, i, j, k2, ei, ej, ek2, by omega, by omega, rfl, rfl⟩⟩⟩⟩⟩
              · refine w_aload_n (i := 0) (n' := 105) dX5_copy_104 rfl rfl rfl ?_
                refine w_iconst (v := 0) (n' := 106) dX5_copy_105 rfl rfl ?_
                refine v_E (ci := 5) (n' := 109) dX5_copy_106 rfl lRX5_57 okX5_finding voX5_finding ⟨⟨Nat.le_of_ble_eq_true rfl, Nat.le_of_ble_eq_true rfl⟩, Nat.le_of_ble_eq_true rfl, Nat.le_of_ble_eq_true rfl⟩ (c_finding 0 _ (by decide) (by decide) _) rfl rfl (Nat.le_of_ble_eq_true rfl) rfl (Nat.le_of_ble_eq_true rfl) rfl ?_
                exact w_iret dX5_copy_109 rfl ⟨_, rfl, Or.inr ⟨q, r, by omega, hq2, by omega, hr2, h6, h15, Or.inr ⟨g1, g2, Or.inr ⟨h72, Or.inl ⟨Or.inr (by simpa using h101), rfl, rfl⟩⟩⟩⟩⟩
          · refine w_aload_n (i := 0) (n' := 76) dX5_copy_75 rfl rfl rfl ?_
            refine w_iconst (v := 2) (n' := 77) dX5_copy_76 rfl rfl ?_
            refine v_E (ci := 5) (n' := 80) dX5_copy_77 rfl lRX5_57 okX5_finding voX5_finding ⟨⟨Nat.le_of_ble_eq_true rfl, Nat.le_of_ble_eq_true rfl⟩, Nat.le_of_ble_eq_true rfl, Nat.le_of_ble_eq_true rfl⟩ (c_finding 2 _ (by decide) (by decide) _) rfl rfl (Nat.le_of_ble_eq_true rfl) rfl (Nat.le_of_ble_eq_true rfl) rfl ?_
            exact w_iret dX5_copy_80 rfl ⟨_, rfl, Or.inr ⟨q, r, by omega, hq2, by omega, hr2, h6, h15, Or.inr ⟨g1, g2, Or.inl ⟨h72, rfl, rfl⟩⟩⟩⟩
        · have g2 : mem (40 + 1 + 2 * r) 1 = 0 := by
            by_cases z : mem (40 + 1 + 2 * r) 1 = 0
            · exact z
            · exact absurd (if_neg z) h53
          refine w_aload_n (i := 0) (n' := 57) dX5_copy_56 rfl rfl rfl ?_
          refine w_iconst (v := 5) (n' := 58) dX5_copy_57 rfl rfl ?_
          refine v_E (ci := 5) (n' := 61) dX5_copy_58 rfl lRX5_57 okX5_finding voX5_finding ⟨⟨Nat.le_of_ble_eq_true rfl, Nat.le_of_ble_eq_true rfl⟩, Nat.le_of_ble_eq_true rfl, Nat.le_of_ble_eq_true rfl⟩ (c_finding 5 _ (by decide) (by decide) _) rfl rfl (Nat.le_of_ble_eq_true rfl) rfl (Nat.le_of_ble_eq_true rfl) rfl ?_
          exact w_iret dX5_copy_61 rfl ⟨_, rfl, Or.inr ⟨q, r, by omega, hq2, by omega, hr2, h6, h15, Or.inl ⟨Or.inr g2, rfl, rfl⟩⟩⟩
    · refine w_aload_n (i := 0) (n' := 19) dX5_copy_18 rfl rfl rfl ?_
      refine w_iconst (v := 0) (n' := 20) dX5_copy_19 rfl rfl ?_
      refine v_E (ci := 5) (n' := 23) dX5_copy_20 rfl lRX5_57 okX5_finding voX5_finding ⟨⟨Nat.le_of_ble_eq_true rfl, Nat.le_of_ble_eq_true rfl⟩, Nat.le_of_ble_eq_true rfl, Nat.le_of_ble_eq_true rfl⟩ (c_finding 0 _ (by decide) (by decide) _) rfl rfl (Nat.le_of_ble_eq_true rfl) rfl (Nat.le_of_ble_eq_true rfl) rfl ?_
      exact w_iret dX5_copy_23 rfl ⟨_, rfl, Or.inl ⟨Or.inr (by simpa using h15), rfl, rfl⟩⟩
def loadN (m : Mem) (q : Nat) : Nat → Mem
  | 0 => m
  | i + 1 => alterF (loadN m q i) (4 + i) 1 (m (40 + 1 + 2 * q + 1) i)
theorem loadN_o (m : Mem) (q : Nat) {a : Nat} : ∀ i, (a < 4 ∨ 4 + i ≤ a) → loadN m q i a = m a
  | 0, _ => rfl
  | i + 1, h => by rw [loadN, alterF, up2_ne _ _ _ (by omega), up2_ne _ _ _ (by omega)]; exact loadN_o m q i (by omega)
theorem loadN_Ca {m : Mem} (q : Nat) (h : CaOK m) : ∀ i, CaOK (loadN m q i)
  | 0 => h
  | i + 1 => by
    intro a ha
    rw [loadN, alterF]
    by_cases e : a = 4 + i
    · subst e
      left
      rw [up2_same]
      simp [upd]
    · rw [up2_ne _ _ _ e, up2_ne _ _ _ e]
      exact loadN_Ca q h i a ha
set_option maxHeartbeats 4000000 in
theorem c5_load {n : Nat} {mem : Mem} (h : PO mem 1 n) (s : Int32) (hl : ∀ q, q < 4 → ∃ z, z ≤ 40 ∧ mem (40 + 1 + 2 * q) 2 = nI z) : CnI mX5_load [.ref 0, .int s] mem (fun x m' => (inR s 0 3 = 0 ∧ x = -1000001 ∧ m' = fnd mem 0) ∨ (∃ q, q < 4 ∧ s = nI q ∧ ¬ inR s 0 3 = 0 ∧ ((mem (40 + 1 + 2 * q) 1 = 0 ∧ x = -1000006 ∧ m' = fnd mem 5) ∨ (¬ mem (40 + 1 + 2 * q) 1 = 0 ∧ ∃ z y, z ≤ 40 ∧ mem (40 + 1 + 2 * q) 2 = nI z ∧ y ≤ z ∧ y ≤ n ∧ (∀ i, i < y → ¬ inR (mem (40 + 1 + 2 * q + 1) i) 0 999 = 0) ∧ (y < z → y < n → inR (mem (40 + 1 + 2 * q + 1) y) 0 999 = 0) ∧ x = nI y ∧ m' = loadN mem q y)))) := by
  have h8 := h.2.2.1
  refine Cn.of (ls := [some (.ref 0), some (.int s), none, none, none]) (by decide) rfl (Nat.le_of_ble_eq_true rfl) ?_
  refine w_aload_n (i := 0) (n' := 1) dX5_load_0 rfl rfl rfl ?_
  refine w_iload_n (i := 1) (n' := 2) dX5_load_1 rfl rfl rfl ?_
  refine v_E (ci := 5) (n' := 5) dX5_load_2 rfl lRX5_211 okX5_refusalOfSheet voX5_refusalOfSheet ⟨⟨Nat.le_of_ble_eq_true rfl, Nat.le_of_ble_eq_true rfl⟩, Nat.le_of_ble_eq_true rfl, Nat.le_of_ble_eq_true rfl⟩ (c_refusalOfSheet _ _) rfl rfl (Nat.le_of_ble_eq_true rfl) rfl (Nat.le_of_ble_eq_true rfl) rfl ?_
  rcases refS_c (m := mem) (s := s) with ⟨e, e2⟩ | ⟨q, hq1, hq2, hq3, ⟨e, e2⟩ | ⟨e, e2⟩⟩
  · rw [e]
    try dsimp only [Option.toList, List.cons_append, List.nil_append]
    refine w_istore_n (i := 2) (n' := 6) (ls' := [_, _, _, _, _]) dX5_load_5 rfl rfl (Nat.le_of_ble_eq_true rfl) rfl rfl ?_
    refine w_iload_n (i := 2) (n' := 7) dX5_load_6 rfl rfl rfl ?_
    refine w_iconst (v := -1) (n' := 8) dX5_load_7 rfl rfl ?_
    refine w_icmp_eq (n' := 11) (tgt := 17) dX5_load_8 rfl rfl (fun h8 => absurd h8 (by decide)) (fun h8 => ?_)
    refine w_aload_n (i := 0) (n' := 12) dX5_load_11 rfl rfl rfl ?_
    refine w_iload_n (i := 2) (n' := 13) dX5_load_12 rfl rfl rfl ?_
    refine v_E (ci := 5) (n' := 16) dX5_load_13 rfl lRX5_57 okX5_finding voX5_finding ⟨⟨Nat.le_of_ble_eq_true rfl, Nat.le_of_ble_eq_true rfl⟩, Nat.le_of_ble_eq_true rfl, Nat.le_of_ble_eq_true rfl⟩ (c_finding 0 _ (by decide) (by decide) _) rfl rfl (Nat.le_of_ble_eq_true rfl) rfl (Nat.le_of_ble_eq_true rfl) rfl ?_
    exact w_iret dX5_load_16 rfl ⟨_, rfl, Or.inl ⟨e2, rfl, rfl⟩⟩
  · rw [e]
    try dsimp only [Option.toList, List.cons_append, List.nil_append]
    refine w_istore_n (i := 2) (n' := 6) (ls' := [_, _, _, _, _]) dX5_load_5 rfl rfl (Nat.le_of_ble_eq_true rfl) rfl rfl ?_
    refine w_iload_n (i := 2) (n' := 7) dX5_load_6 rfl rfl rfl ?_
    refine w_iconst (v := -1) (n' := 8) dX5_load_7 rfl rfl ?_
    refine w_icmp_eq (n' := 11) (tgt := 17) dX5_load_8 rfl rfl (fun h8 => absurd h8 (by decide)) (fun h8 => ?_)
    refine w_aload_n (i := 0) (n' := 12) dX5_load_11 rfl rfl rfl ?_
    refine w_iload_n (i := 2) (n' := 13) dX5_load_12 rfl rfl rfl ?_
    refine v_E (ci := 5) (n' := 16) dX5_load_13 rfl lRX5_57 okX5_finding voX5_finding ⟨⟨Nat.le_of_ble_eq_true rfl, Nat.le_of_ble_eq_true rfl⟩, Nat.le_of_ble_eq_true rfl, Nat.le_of_ble_eq_true rfl⟩ (c_finding 5 _ (by decide) (by decide) _) rfl rfl (Nat.le_of_ble_eq_true rfl) rfl (Nat.le_of_ble_eq_true rfl) rfl ?_
    exact w_iret dX5_load_16 rfl ⟨_, rfl, Or.inr ⟨q, hq1, hq2, hq3, Or.inl ⟨e2, rfl, rfl⟩⟩⟩
  · rw [e]
    try dsimp only [Option.toList, List.cons_append, List.nil_append]
    obtain ⟨z, hz1, hz2⟩ := hl q hq1
    obtain ⟨w, hw⟩ : ∃ w, w = if z < n then z else n := ⟨_, rfl⟩
    have hwz : w ≤ z ∧ w ≤ n ∧ (w = z ∨ w = n) := by rw [hw]; split <;> omega
    refine w_istore_n (i := 2) (n' := 6) (ls' := [_, _, _, _, _]) dX5_load_5 rfl rfl (Nat.le_of_ble_eq_true rfl) rfl rfl ?_
    refine w_iload_n (i := 2) (n' := 7) dX5_load_6 rfl rfl rfl ?_
    refine w_iconst (v := -1) (n' := 8) dX5_load_7 rfl rfl ?_
    refine w_icmp_eq (n' := 11) (tgt := 17) dX5_load_8 rfl rfl (fun h8 => ?_) (fun h8 => absurd rfl h8)
    refine w_iconst (v := 0) (n' := 18) dX5_load_17 rfl rfl ?_
    refine w_istore_n (i := 3) (n' := 19) (ls' := [_, _, _, _, _]) dX5_load_18 rfl rfl (Nat.le_of_ble_eq_true rfl) rfl rfl ?_
    refine w_aload_n (i := 0) (n' := 20) dX5_load_19 rfl rfl rfl ?_
    refine w_get (ci := 5) (j := 5) (n' := 23) dX5_load_20 rfl fRX5_40 (Nat.le_of_ble_eq_true rfl) (Nat.le_of_ble_eq_true rfl) rfl rfl ?_
    refine w_iload_n (i := 1) (n' := 24) dX5_load_23 rfl rfl rfl ?_
    refine w_aaldS (n := q) (n' := 25) dX5_load_24 rfl rfl hq2 (show q < 4 by omega) ?_
    refine w_get (ci := 2) (j := 2) (n' := 28) dX5_load_25 rfl fRX5_214 (Nat.le_of_ble_eq_true rfl) (Nat.le_of_ble_eq_true rfl) (kS4 q (by omega)) rfl ?_
    refine w_aload_n (i := 0) (n' := 29) dX5_load_28 rfl rfl rfl ?_
    refine w_get (ci := 5) (j := 0) (n' := 32) dX5_load_29 rfl fRX5_10 (Nat.le_of_ble_eq_true rfl) (Nat.le_of_ble_eq_true rfl) rfl rfl ?_
    refine w_get (ci := 1) (j := 3) (n' := 35) dX5_load_32 rfl fRX5_172 (Nat.le_of_ble_eq_true rfl) (Nat.le_of_ble_eq_true rfl) rfl rfl ?_
    refine w_min (n' := 38) dX5_load_35 rfl lRX5_270 ⟨Nat.le_of_ble_eq_true rfl, Nat.le_of_ble_eq_true rfl, Nat.le_of_ble_eq_true rfl, Nat.le_of_ble_eq_true rfl⟩ ?_
    rw [show minI (mem (40 + 1 + 2 * q) 2) (mem 1 3) = nI w from by
      rw [hz2, h.2.1, minI, hw]
      by_cases c : n < z
      · rw [if_pos (nI_lt c (by omega)), if_neg (by omega)]
      · rw [if_neg (nI_nlt (by omega) (by omega))]
        by_cases c2 : z < n
        · rw [if_pos c2]
        · rw [if_neg c2, show z = n by omega]]
    refine w_istore (n' := 40) (ls' := [_, _, _, _, _]) dX5_load_38 rfl (Nat.le_of_ble_eq_true rfl) rfl rfl ?_
    have L : ∀ (i : Nat) (m1 : Mem), i ≤ w → (m1 = loadN mem q i ∧ ∀ j, j < i → ¬ inR (mem (40 + 1 + 2 * q + 1) j) 0 999 = 0) → Wm mX5_load (zM mX5_load (fun rZ mZ => ∃ xZ, rZ = some (.int xZ) ∧ (fun x m' => (inR s 0 3 = 0 ∧ x = -1000001 ∧ m' = fnd mem 0) ∨ (∃ q, q < 4 ∧ s = nI q ∧ ¬ inR s 0 3 = 0 ∧ ((mem (40 + 1 + 2 * q) 1 = 0 ∧ x = -1000006 ∧ m' = fnd mem 5) ∨ (¬ mem (40 + 1 + 2 * q) 1 = 0 ∧ ∃ z y, z ≤ 40 ∧ mem (40 + 1 + 2 * q) 2 = nI z ∧ y ≤ z ∧ y ≤ n ∧ (∀ i, i < y → ¬ inR (mem (40 + 1 + 2 * q + 1) i) 0 999 = 0) ∧ (y < z → y < n → inR (mem (40 + 1 + 2 * q + 1) y) 0 999 = 0) ∧ x = nI y ∧ m' = loadN mem q y)))) xZ mZ)) 40 [some (.ref 0), some (.int s), some (.int (-1)), some (.int (nI i)), some (.int (nI w))] [] m1 := by
      refine for_ind w ?_
      rintro i m1 hi ⟨h1, h2⟩ ih
      have hN : m1 (40 + 1 + 2 * q + 1) = mem (40 + 1 + 2 * q + 1) := by rw [h1]; exact loadN_o mem q i (by omega)
      refine w_iload_n (i := 3) (n' := 41) dX5_load_40 rfl rfl rfl ?_
      refine w_iload (n' := 43) dX5_load_41 rfl rfl ?_
      refine w_icmp_ge (n' := 46) (tgt := 94) dX5_load_43 rfl rfl (fun h43 => ?_) (fun h43 => ?_)
      · have hin : i = w := by
          rcases Nat.lt_or_ge i w with c | c
          · exact absurd h43 (nI_ge c (by omega))
          · omega
        refine w_iload_n (i := 3) (n' := 95) dX5_load_94 rfl rfl rfl ?_
        exact w_iret dX5_load_95 rfl ⟨_, rfl, Or.inr ⟨q, hq1, hq2, hq3, Or.inr ⟨e2, z, i, hz1, hz2, by omega, by omega, h2, fun c1 c2 => absurd hin (by omega), rfl, h1⟩⟩⟩
      · have hlt : i < w := by
          rcases Nat.lt_or_ge i w with c | c
          · exact c
          · exact absurd (nI_le c (by omega)) h43
        refine w_iconst (v := 1) (n' := 47) dX5_load_46 rfl rfl ?_
        refine w_aload_n (i := 0) (n' := 48) dX5_load_47 rfl rfl rfl ?_
        refine w_get (ci := 5) (j := 5) (n' := 51) dX5_load_48 rfl fRX5_40 (Nat.le_of_ble_eq_true rfl) (Nat.le_of_ble_eq_true rfl) rfl rfl ?_
        refine w_iload_n (i := 1) (n' := 52) dX5_load_51 rfl rfl rfl ?_
        refine w_aaldS (n := q) (n' := 53) dX5_load_52 rfl rfl hq2 (show q < 4 by omega) ?_
        refine w_get (ci := 2) (j := 0) (n' := 56) dX5_load_53 rfl fRX5_217 (Nat.le_of_ble_eq_true rfl) (Nat.le_of_ble_eq_true rfl) (kS4 q (by omega)) rfl ?_
        refine w_iload_n (i := 3) (n' := 57) dX5_load_56 rfl rfl rfl ?_
        refine w_iald (n := i) (n' := 58) dX5_load_57 rfl (kSh (kS4 q (by omega))).1 rfl (by rw [(kSh (kS4 q (by omega))).2]; omega) ?_
        refine s_E (n' := 61) dX5_load_58 rfl lRX5_64 okX0_mayBe stX0_mayBe ⟨⟨Nat.le_of_ble_eq_true rfl, Nat.le_of_ble_eq_true rfl⟩, Nat.le_of_ble_eq_true rfl, Nat.le_of_ble_eq_true rfl⟩ (c_may1 _ _) rfl rfl (Nat.le_of_ble_eq_true rfl) ?_
        refine w_if_eq (n' := 64) (tgt := 94) dX5_load_61 rfl rfl (fun h61 => ?_) (fun h61 => ?_)
        · refine w_iload_n (i := 3) (n' := 95) dX5_load_94 rfl rfl rfl ?_
          exact w_iret dX5_load_95 rfl ⟨_, rfl, Or.inr ⟨q, hq1, hq2, hq3, Or.inr ⟨e2, z, i, hz1, hz2, by omega, by omega, h2, fun _ _ => by rw [← hN]; exact h61, rfl, h1⟩⟩⟩
        · refine w_aload_n (i := 0) (n' := 65) dX5_load_64 rfl rfl rfl ?_
          refine w_get (ci := 5) (j := 0) (n' := 68) dX5_load_65 rfl fRX5_10 (Nat.le_of_ble_eq_true rfl) (Nat.le_of_ble_eq_true rfl) rfl rfl ?_
          refine w_get (ci := 1) (j := 1) (n' := 71) dX5_load_68 rfl fRX5_82 (Nat.le_of_ble_eq_true rfl) (Nat.le_of_ble_eq_true rfl) rfl rfl ?_
          refine w_iload_n (i := 3) (n' := 72) dX5_load_71 rfl rfl rfl ?_
          refine w_aaldF (n := i) (n' := 73) dX5_load_72 rfl rfl rfl (show i < 8 by omega) ?_
          refine w_iconst (v := 1) (n' := 74) dX5_load_73 rfl rfl ?_
          refine w_aload_n (i := 0) (n' := 75) dX5_load_74 rfl rfl rfl ?_
          refine w_get (ci := 5) (j := 5) (n' := 78) dX5_load_75 rfl fRX5_40 (Nat.le_of_ble_eq_true rfl) (Nat.le_of_ble_eq_true rfl) rfl rfl ?_
          refine w_iload_n (i := 1) (n' := 79) dX5_load_78 rfl rfl rfl ?_
          refine w_aaldS (n := q) (n' := 80) dX5_load_79 rfl rfl hq2 (show q < 4 by omega) ?_
          refine w_get (ci := 2) (j := 0) (n' := 83) dX5_load_80 rfl fRX5_217 (Nat.le_of_ble_eq_true rfl) (Nat.le_of_ble_eq_true rfl) (kS4 q (by omega)) rfl ?_
          refine w_iload_n (i := 3) (n' := 84) dX5_load_83 rfl rfl rfl ?_
          refine w_iald (n := i) (n' := 85) dX5_load_84 rfl (kSh (kS4 q (by omega))).1 rfl (by rw [(kSh (kS4 q (by omega))).2]; omega) ?_
          refine v_E (ci := 0) (n' := 88) dX5_load_85 rfl lRX5_103 okX0_alter voX0_alter ⟨⟨Nat.le_of_ble_eq_true rfl, Nat.le_of_ble_eq_true rfl⟩, Nat.le_of_ble_eq_true rfl, Nat.le_of_ble_eq_true rfl⟩ (c_alter (show kd (4 + i) = 0 from (kPa (k := 1) rfl).2.2.1 i (by omega)) _ _ _) rfl rfl (Nat.le_of_ble_eq_true rfl) (show kd (4 + i) = 0 from (kPa (k := 1) rfl).2.2.1 i (by omega)) (Nat.le_of_ble_eq_true rfl) rfl ?_
          refine w_iinc (n' := 91) (v := nI (i + 1)) (ls' := [_, _, _, _, _]) dX5_load_88 rfl rfl (nI_1 i) (Nat.le_of_ble_eq_true rfl) rfl rfl ?_
          refine w_goto (tgt := 40) dX5_load_91 rfl ?_
          exact ih hlt _ ⟨by rw [loadN, h1, loadN_o mem q i (a := 40 + 1 + 2 * q + 1) (by omega)], fun j hj => by
            rcases Nat.lt_or_ge j i with c | c
            · exact h2 j c
            · rw [show j = i by omega, ← hN]; exact h61⟩
    exact L 0 _ (Nat.zero_le _) ⟨rfl, fun j hj => absurd hj (by omega)⟩
set_option maxHeartbeats 4000000 in
theorem c5_judge {n : Nat} {mem : Mem} (h : PO mem 1 n) (s : Int32) (hl : ∀ q, q < 4 → ∃ z, z ≤ 40 ∧ mem (40 + 1 + 2 * q) 2 = nI z) : CnI mX5_judge [.ref 0, .int s] mem (fun x m' => (inR s 0 3 = 0 ∧ x = -1000001 ∧ m' = fnd mem 0) ∨ (∃ q, q < 4 ∧ s = nI q ∧ ¬ inR s 0 3 = 0 ∧ ((mem (40 + 1 + 2 * q) 1 = 0 ∧ x = -1000006 ∧ m' = fnd mem 5) ∨ (¬ mem (40 + 1 + 2 * q) 1 = 0 ∧ ∃ z y, z ≤ 40 ∧ mem (40 + 1 + 2 * q) 2 = nI z ∧ y ≤ z ∧ y ≤ n ∧ (∀ i, i < y → DP mem 1 i = mem (40 + 1 + 2 * q + 1) i) ∧ (y < z → y < n → ¬ DP mem 1 y = mem (40 + 1 + 2 * q + 1) y) ∧ x = (if y < z then nI (1 + y) else 0) ∧ Same mem m')))) := by
  have h8 := h.2.2.1
  refine Cn.of (ls := [some (.ref 0), some (.int s), none, none]) (by decide) rfl (Nat.le_of_ble_eq_true rfl) ?_
  refine w_aload_n (i := 0) (n' := 1) dX5_judge_0 rfl rfl rfl ?_
  refine w_iload_n (i := 1) (n' := 2) dX5_judge_1 rfl rfl rfl ?_
  refine v_E (ci := 5) (n' := 5) dX5_judge_2 rfl lRX5_211 okX5_refusalOfSheet voX5_refusalOfSheet ⟨⟨Nat.le_of_ble_eq_true rfl, Nat.le_of_ble_eq_true rfl⟩, Nat.le_of_ble_eq_true rfl, Nat.le_of_ble_eq_true rfl⟩ (c_refusalOfSheet _ _) rfl rfl (Nat.le_of_ble_eq_true rfl) rfl (Nat.le_of_ble_eq_true rfl) rfl ?_
  rcases refS_c (m := mem) (s := s) with ⟨e, e2⟩ | ⟨q, hq1, hq2, hq3, ⟨e, e2⟩ | ⟨e, e2⟩⟩
  · rw [e]
    try dsimp only [Option.toList, List.cons_append, List.nil_append]
    refine w_istore_n (i := 2) (n' := 6) (ls' := [_, _, _, _]) dX5_judge_5 rfl rfl (Nat.le_of_ble_eq_true rfl) rfl rfl ?_
    refine w_iload_n (i := 2) (n' := 7) dX5_judge_6 rfl rfl rfl ?_
    refine w_iconst (v := -1) (n' := 8) dX5_judge_7 rfl rfl ?_
    refine w_icmp_eq (n' := 11) (tgt := 17) dX5_judge_8 rfl rfl (fun h8 => absurd h8 (by decide)) (fun h8 => ?_)
    refine w_aload_n (i := 0) (n' := 12) dX5_judge_11 rfl rfl rfl ?_
    refine w_iload_n (i := 2) (n' := 13) dX5_judge_12 rfl rfl rfl ?_
    refine v_E (ci := 5) (n' := 16) dX5_judge_13 rfl lRX5_57 okX5_finding voX5_finding ⟨⟨Nat.le_of_ble_eq_true rfl, Nat.le_of_ble_eq_true rfl⟩, Nat.le_of_ble_eq_true rfl, Nat.le_of_ble_eq_true rfl⟩ (c_finding 0 _ (by decide) (by decide) _) rfl rfl (Nat.le_of_ble_eq_true rfl) rfl (Nat.le_of_ble_eq_true rfl) rfl ?_
    exact w_iret dX5_judge_16 rfl ⟨_, rfl, Or.inl ⟨e2, rfl, rfl⟩⟩
  · rw [e]
    try dsimp only [Option.toList, List.cons_append, List.nil_append]
    refine w_istore_n (i := 2) (n' := 6) (ls' := [_, _, _, _]) dX5_judge_5 rfl rfl (Nat.le_of_ble_eq_true rfl) rfl rfl ?_
    refine w_iload_n (i := 2) (n' := 7) dX5_judge_6 rfl rfl rfl ?_
    refine w_iconst (v := -1) (n' := 8) dX5_judge_7 rfl rfl ?_
    refine w_icmp_eq (n' := 11) (tgt := 17) dX5_judge_8 rfl rfl (fun h8 => absurd h8 (by decide)) (fun h8 => ?_)
    refine w_aload_n (i := 0) (n' := 12) dX5_judge_11 rfl rfl rfl ?_
    refine w_iload_n (i := 2) (n' := 13) dX5_judge_12 rfl rfl rfl ?_
    refine v_E (ci := 5) (n' := 16) dX5_judge_13 rfl lRX5_57 okX5_finding voX5_finding ⟨⟨Nat.le_of_ble_eq_true rfl, Nat.le_of_ble_eq_true rfl⟩, Nat.le_of_ble_eq_true rfl, Nat.le_of_ble_eq_true rfl⟩ (c_finding 5 _ (by decide) (by decide) _) rfl rfl (Nat.le_of_ble_eq_true rfl) rfl (Nat.le_of_ble_eq_true rfl) rfl ?_
    exact w_iret dX5_judge_16 rfl ⟨_, rfl, Or.inr ⟨q, hq1, hq2, hq3, Or.inl ⟨e2, rfl, rfl⟩⟩⟩
  · rw [e]
    try dsimp only [Option.toList, List.cons_append, List.nil_append]
    obtain ⟨z, hz1, hz2⟩ := hl q hq1
    refine w_istore_n (i := 2) (n' := 6) (ls' := [_, _, _, _]) dX5_judge_5 rfl rfl (Nat.le_of_ble_eq_true rfl) rfl rfl ?_
    refine w_iload_n (i := 2) (n' := 7) dX5_judge_6 rfl rfl rfl ?_
    refine w_iconst (v := -1) (n' := 8) dX5_judge_7 rfl rfl ?_
    refine w_icmp_eq (n' := 11) (tgt := 17) dX5_judge_8 rfl rfl (fun h8 => ?_) (fun h8 => absurd rfl h8)
    refine w_iconst (v := 0) (n' := 18) dX5_judge_17 rfl rfl ?_
    refine w_istore_n (i := 3) (n' := 19) (ls' := [_, _, _, _]) dX5_judge_18 rfl rfl (Nat.le_of_ble_eq_true rfl) rfl rfl ?_
    have L : ∀ (i : Nat) (m1 : Mem), i ≤ z → (Same mem m1 ∧ i ≤ n ∧ ∀ j, j < i → DP mem 1 j = mem (40 + 1 + 2 * q + 1) j) → Wm mX5_judge (zM mX5_judge (fun rZ mZ => ∃ xZ, rZ = some (.int xZ) ∧ (fun x m' => (inR s 0 3 = 0 ∧ x = -1000001 ∧ m' = fnd mem 0) ∨ (∃ q, q < 4 ∧ s = nI q ∧ ¬ inR s 0 3 = 0 ∧ ((mem (40 + 1 + 2 * q) 1 = 0 ∧ x = -1000006 ∧ m' = fnd mem 5) ∨ (¬ mem (40 + 1 + 2 * q) 1 = 0 ∧ ∃ z y, z ≤ 40 ∧ mem (40 + 1 + 2 * q) 2 = nI z ∧ y ≤ z ∧ y ≤ n ∧ (∀ i, i < y → DP mem 1 i = mem (40 + 1 + 2 * q + 1) i) ∧ (y < z → y < n → ¬ DP mem 1 y = mem (40 + 1 + 2 * q + 1) y) ∧ x = (if y < z then nI (1 + y) else 0) ∧ Same mem m')))) xZ mZ)) 19 [some (.ref 0), some (.int s), some (.int (-1)), some (.int (nI i))] [] m1 := by
      refine for_ind z ?_
      rintro i m1 hi ⟨h1, hin1, h2⟩ ih
      have hp := h1.PO h
      have hN : m1 (40 + 1 + 2 * q + 1) = mem (40 + 1 + 2 * q + 1) := h1.row (by rw [(kSh (kS4 q (by omega))).1]; decide)
      have hN0 : m1 (40 + 1 + 2 * q) = mem (40 + 1 + 2 * q) := h1.row (by rw [kS4 q (by omega)]; decide)
      refine w_iload_n (i := 3) (n' := 20) dX5_judge_19 rfl rfl rfl ?_
      refine w_aload_n (i := 0) (n' := 21) dX5_judge_20 rfl rfl rfl ?_
      refine w_get (ci := 5) (j := 5) (n' := 24) dX5_judge_21 rfl fRX5_40 (Nat.le_of_ble_eq_true rfl) (Nat.le_of_ble_eq_true rfl) rfl rfl ?_
      refine w_iload_n (i := 1) (n' := 25) dX5_judge_24 rfl rfl rfl ?_
      refine w_aaldS (n := q) (n' := 26) dX5_judge_25 rfl rfl hq2 (show q < 4 by omega) ?_
      refine w_get (ci := 2) (j := 2) (n' := 29) dX5_judge_26 rfl fRX5_214 (Nat.le_of_ble_eq_true rfl) (Nat.le_of_ble_eq_true rfl) (kS4 q (by omega)) rfl ?_
      refine w_icmp_ge (n' := 32) (tgt := 88) dX5_judge_29 rfl rfl (fun h29 => ?_) (fun h29 => ?_)
      · have hin : i = z := by
          rcases Nat.lt_or_ge i z with c | c
          · exact absurd h29 (by rw [hN0, hz2]; exact nI_ge c (by omega))
          · omega
        refine w_iconst (v := 0) (n' := 89) dX5_judge_88 rfl rfl ?_
        exact w_iret dX5_judge_89 rfl ⟨_, rfl, Or.inr ⟨q, hq1, hq2, hq3, Or.inr ⟨e2, z, i, hz1, hz2, by omega, hin1, h2, fun c => absurd c (by omega), by rw [if_neg (by omega)], h1⟩⟩⟩
      · have hlt : i < z := by
          rcases Nat.lt_or_ge i z with c | c
          · exact c
          · exact absurd (by rw [hN0, hz2]; exact nI_le c (by omega)) h29
        refine w_aload_n (i := 0) (n' := 33) dX5_judge_32 rfl rfl rfl ?_
        refine w_get (ci := 5) (j := 0) (n' := 36) dX5_judge_33 rfl fRX5_10 (Nat.le_of_ble_eq_true rfl) (Nat.le_of_ble_eq_true rfl) rfl rfl ?_
        refine w_iload_n (i := 3) (n' := 37) dX5_judge_36 rfl rfl rfl ?_
        refine v_E (ci := 1) (n' := 40) dX5_judge_37 rfl lRX5_78 okX1_hasFarm voX1_hasFarm ⟨⟨Nat.le_of_ble_eq_true rfl, Nat.le_of_ble_eq_true rfl⟩, Nat.le_of_ble_eq_true rfl, Nat.le_of_ble_eq_true rfl⟩ (c_hasFarm rfl _ _) rfl rfl (Nat.le_of_ble_eq_true rfl) rfl (Nat.le_of_ble_eq_true rfl) rfl ?_
        refine w_if_eq (n' := 43) (tgt := 78) dX5_judge_40 rfl rfl (fun h40 => ?_) (fun h40 => ?_)
        · have hin2 : i = n := by
            rcases Nat.lt_or_ge i n with c | c
            · rw [hp.2.1, hasF_in (by omega) c] at h40
              exact absurd h40 (by decide)
            · omega
          refine w_iconst (v := 1) (n' := 79) dX5_judge_78 rfl rfl ?_
          refine w_iload_n (i := 3) (n' := 80) dX5_judge_79 rfl rfl rfl ?_
          refine w_iadd (n' := 81) dX5_judge_80 rfl ?_
          exact w_iret dX5_judge_81 rfl ⟨_, rfl, Or.inr ⟨q, hq1, hq2, hq3, Or.inr ⟨e2, z, i, hz1, hz2, by omega, by omega, h2, fun _ c => absurd hin2 (by omega), by rw [if_pos hlt, ← nI_add]; rfl, h1⟩⟩⟩
        · have hlt2 : i < n := by
            obtain ⟨j, hj1, hj2⟩ := hasF_of (n := n) (by omega) (by rw [← hp.2.1]; exact h40)
            have := (nI_eq (by omega) (by omega)).mp hj2
            omega
          refine w_aload_n (i := 0) (n' := 44) dX5_judge_43 rfl rfl rfl ?_
          refine w_get (ci := 5) (j := 0) (n' := 47) dX5_judge_44 rfl fRX5_10 (Nat.le_of_ble_eq_true rfl) (Nat.le_of_ble_eq_true rfl) rfl rfl ?_
          refine w_get (ci := 1) (j := 1) (n' := 50) dX5_judge_47 rfl fRX5_82 (Nat.le_of_ble_eq_true rfl) (Nat.le_of_ble_eq_true rfl) rfl rfl ?_
          refine w_iload_n (i := 3) (n' := 51) dX5_judge_50 rfl rfl rfl ?_
          refine w_aaldF (n := i) (n' := 52) dX5_judge_51 rfl rfl rfl (show i < 8 by omega) ?_
          refine w_aload_n (i := 0) (n' := 53) dX5_judge_52 rfl rfl rfl ?_
          refine w_get (ci := 5) (j := 0) (n' := 56) dX5_judge_53 rfl fRX5_10 (Nat.le_of_ble_eq_true rfl) (Nat.le_of_ble_eq_true rfl) rfl rfl ?_
          refine w_get (ci := 1) (j := 0) (n' := 59) dX5_judge_56 rfl fRX5_61 (Nat.le_of_ble_eq_true rfl) (Nat.le_of_ble_eq_true rfl) rfl rfl ?_
          refine w_iconst (v := 0) (n' := 60) dX5_judge_59 rfl rfl ?_
          refine w_iald (n := 0) (n' := 61) dX5_judge_60 rfl rfl (by decide) (by decide) ?_
          refine v_I (ci := 0) (n' := 64) dX5_judge_61 rfl lRX5_93 okX0_daysIn voX0_daysIn ⟨⟨Nat.le_of_ble_eq_true rfl, Nat.le_of_ble_eq_true rfl⟩, Nat.le_of_ble_eq_true rfl, Nat.le_of_ble_eq_true rfl⟩ (c_daysIn (show kd (4 + i) = 0 from (kPa (k := 1) rfl).2.2.1 i (by omega)) _ hp.2.2.2.1 _ hp.2.2.2.2) rfl rfl (Nat.le_of_ble_eq_true rfl) (show kd (4 + i) = 0 from (kPa (k := 1) rfl).2.2.1 i (by omega)) (Nat.le_of_ble_eq_true rfl) rfl (fun x61 m61 q61 => ?_)
          have hD : x61 = DP mem 1 i := by rw [q61.1, ← h1.DP rfl]; rfl
          have s61 : Same mem m61 := h1.tr ⟨q61.2.1, q61.2.2.1⟩
          refine w_aload_n (i := 0) (n' := 65) dX5_judge_64 rfl rfl rfl ?_
          refine w_get (ci := 5) (j := 5) (n' := 68) dX5_judge_65 rfl fRX5_40 (Nat.le_of_ble_eq_true rfl) (Nat.le_of_ble_eq_true rfl) rfl rfl ?_
          refine w_iload_n (i := 1) (n' := 69) dX5_judge_68 rfl rfl rfl ?_
          refine w_aaldS (n := q) (n' := 70) dX5_judge_69 rfl rfl hq2 (show q < 4 by omega) ?_
          refine w_get (ci := 2) (j := 0) (n' := 73) dX5_judge_70 rfl fRX5_217 (Nat.le_of_ble_eq_true rfl) (Nat.le_of_ble_eq_true rfl) (kS4 q (by omega)) rfl ?_
          refine w_iload_n (i := 3) (n' := 74) dX5_judge_73 rfl rfl rfl ?_
          refine w_iald (n := i) (n' := 75) dX5_judge_74 rfl (kSh (kS4 q (by omega))).1 rfl (by rw [(kSh (kS4 q (by omega))).2]; omega) ?_
          refine w_icmp_eq (n' := 78) (tgt := 82) dX5_judge_75 rfl rfl (fun h75 => ?_) (fun h75 => ?_)
          · refine w_iinc (n' := 85) (v := nI (i + 1)) (ls' := [_, _, _, _]) dX5_judge_82 rfl rfl (nI_1 i) (Nat.le_of_ble_eq_true rfl) rfl rfl ?_
            refine w_goto (tgt := 19) dX5_judge_85 rfl ?_
            exact ih hlt _ ⟨s61, by omega, fun j hj => by
              rcases Nat.lt_or_ge j i with c | c
              · exact h2 j c
              · rw [show j = i by omega, ← hD, h75, s61.row (by rw [(kSh (kS4 q (by omega))).1]; decide)]⟩
          · refine w_iconst (v := 1) (n' := 79) dX5_judge_78 rfl rfl ?_
            refine w_iload_n (i := 3) (n' := 80) dX5_judge_79 rfl rfl rfl ?_
            refine w_iadd (n' := 81) dX5_judge_80 rfl ?_
            exact w_iret dX5_judge_81 rfl ⟨_, rfl, Or.inr ⟨q, hq1, hq2, hq3, Or.inr ⟨e2, z, i, hz1, hz2, by omega, by omega, h2, fun _ _ c => h75 (by rw [hD, c, s61.row (by rw [(kSh (kS4 q (by omega))).1]; decide)]), by rw [if_pos hlt, ← nI_add]; rfl, s61⟩⟩⟩
    exact L 0 _ (Nat.zero_le _) ⟨Same.rf h.2.2.2.2, Nat.zero_le _, fun j hj => absurd hj (by omega)⟩
