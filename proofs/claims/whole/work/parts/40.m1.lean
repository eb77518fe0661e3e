/-! the reference: small ones -/
theorem i64_lt (a b : Int32) : a.toInt64 < b.toInt64 ↔ a < b := by
  rw [Int64.lt_iff_toInt_lt, Int32.lt_iff_toInt_lt, Int32.toInt_toInt64, Int32.toInt_toInt64]
theorem lg_lt (x y : Int64) : lg_cmp x y < 0 ↔ x < y := by
  unfold lg_cmp
  by_cases h1 : y < x
  · have h2 : ¬ x < y := lg_lt_not h1
    simp [h1, h2]
  · by_cases h2 : x = y
    · subst h2; simp
    · have h3 : x < y := by
        simp only [Int64.lt_iff_toInt_lt] at *
        have : ¬ x.toInt = y.toInt := fun q => h2 (Int64.toInt_inj.mp q)
        omega
      simp [h1, h2, h3]
theorem lg_gt (x y : Int64) : 0 < lg_cmp x y ↔ y < x := by
  unfold lg_cmp
  by_cases h1 : y < x
  · simp [h1]
  · by_cases h2 : x = y
    · subst h2; simp
    · simp [h1, h2]
def fndM (m : Mem) (w : Nat) : Mem := up2 (up2 m 55 0 (m 55 0 + 1)) 55 (w + 1) (m 55 (w + 1) + 1)
def rowC (m : Mem) (a b : Nat) : Mem := upR m b (fun j => if j < 56 then m a j else m b j)
theorem maxI_le (a b : Int32) : (if a ≤ b then b else a) = maxI a b := by
  unfold maxI
  by_cases h : a < b
  · rw [if_pos h, if_pos (by rw [Int32.le_iff_toInt_le]; rw [Int32.lt_iff_toInt_lt] at h; omega)]
  · rw [if_neg h]
    by_cases h2 : a ≤ b
    · rw [if_pos h2]
      rw [Int32.lt_iff_toInt_lt] at h
      rw [Int32.le_iff_toInt_le] at h2
      exact Int32.toInt_inj.mp (by omega)
    · rw [if_neg h2]
theorem minI_le (a b : Int32) : (if b ≤ a then b else a) = minI a b := by
  unfold minI
  by_cases h : b < a
  · rw [if_pos h, if_pos (by rw [Int32.le_iff_toInt_le]; rw [Int32.lt_iff_toInt_lt] at h; omega)]
  · rw [if_neg h]
    by_cases h2 : b ≤ a
    · rw [if_pos h2]
      rw [Int32.lt_iff_toInt_lt] at h
      rw [Int32.le_iff_toInt_le] at h2
      exact Int32.toInt_inj.mp (by omega)
    · rw [if_neg h2]
theorem isF_eq {n : Nat} (hn : n ≤ 1000) (f : Int32) : (if f < 0 then (0 : Int32) else if nI n ≤ f then 0 else 1) = inR f 0 (nI n - 1) := by
  by_cases h1 : f < 0
  · rw [if_pos h1]; unfold inR; rw [if_pos h1]
  · rw [if_neg h1]
    obtain ⟨i, hi1, hi2⟩ := nI_of h1
    subst hi2
    rcases Nat.lt_or_ge i n with c | c
    · rw [if_neg (nI_ge c (by omega)), hasF_in hn c]
    · rw [if_pos (nI_le c hi1)]
      rcases inR_01 (nI i) 0 (nI n - 1) with e | e
      · exact e.symm
      · exfalso
        obtain ⟨j, hj1, hj2⟩ := hasF_of hn (by rw [e]; decide)
        have := (nI_eq hi1 (by omega)).mp hj2
        omega
set_option maxHeartbeats 4000000 in
theorem c6_isIn (v a b : Int32) (A B : Int64) (hA : A = a.toInt64) (hB : B = b.toInt64) (mem : Mem) : CnE mX6_isIn [.long v.toInt64, .long A, .long B] mem (some (.int (inR v a b))) mem := by
  refine Cn.of (ls := [some (.long v.toInt64), none, some (.long A), none, some (.long B), none]) (by decide) rfl (Nat.le_of_ble_eq_true rfl) ?_
  refine w_lload_n (i := 0) (n' := 1) dX6_isIn_0 rfl rfl rfl ?_
  refine w_lload_n (i := 2) (n' := 2) dX6_isIn_1 rfl rfl rfl ?_
  refine w_lcmp (n' := 3) dX6_isIn_2 rfl ?_
  refine w_if_lt (n' := 6) (tgt := 17) dX6_isIn_3 rfl rfl (fun h3 => ?_) (fun h3 => ?_)
  · rw [lg_lt, hA, i64_lt] at h3
    refine w_iconst (v := 0) (n' := 18) dX6_isIn_17 rfl rfl ?_
    exact w_zret dX6_isIn_18 rfl rfl ⟨by simp [inR, *], rfl⟩
  · rw [lg_lt, hA, i64_lt] at h3
    refine w_lload_n (i := 0) (n' := 7) dX6_isIn_6 rfl rfl rfl ?_
    refine w_lload (n' := 9) dX6_isIn_7 rfl rfl ?_
    refine w_lcmp (n' := 10) dX6_isIn_9 rfl ?_
    refine w_if_gt (n' := 13) (tgt := 17) dX6_isIn_10 rfl rfl (fun h10 => ?_) (fun h10 => ?_)
    · rw [lg_gt, hB, i64_lt] at h10
      refine w_iconst (v := 0) (n' := 18) dX6_isIn_17 rfl rfl ?_
      exact w_zret dX6_isIn_18 rfl rfl ⟨by simp [inR, *], rfl⟩
    · rw [lg_gt, hB, i64_lt] at h10
      refine w_iconst (v := 1) (n' := 14) dX6_isIn_13 rfl rfl ?_
      refine w_goto (tgt := 18) dX6_isIn_14 rfl ?_
      exact w_zret dX6_isIn_18 rfl rfl ⟨by simp [inR, *], rfl⟩
set_option maxHeartbeats 4000000 in
theorem c6_finds (w : Nat) (v : Int32) (hv : v = -1000001 - nI w) (hw : w < 7) (mem : Mem) : CnE mX6_finds [.ref 50, .int v] mem (some (.int v)) (fndM mem w) := by
  have hix : -1000001 - v + 1 = nI (w + 1) := by
    rw [hv]
    have : ∀ w, w < 7 → (-1000001 : Int32) - (-1000001 - nI w) + 1 = nI (w + 1) := by decide +kernel
    exact this w hw
  refine Cn.of (ls := [some (.ref 50), some (.int v)]) (by decide) rfl (Nat.le_of_ble_eq_true rfl) ?_
  refine w_aload_n (i := 0) (n' := 1) dX6_finds_0 rfl rfl rfl ?_
  refine w_get (ci := 6) (j := 5) (n' := 4) dX6_finds_1 rfl fRX6_22 (Nat.le_of_ble_eq_true rfl) (Nat.le_of_ble_eq_true rfl) rfl rfl ?_
  refine w_iconst (v := 0) (n' := 5) dX6_finds_4 rfl rfl ?_
  refine w_dup2 (n' := 6) dX6_finds_5 rfl rfl rfl ?_
  refine w_iald (n := 0) (n' := 7) dX6_finds_6 rfl rfl (by decide) (by decide) ?_
  refine w_iconst (v := 1) (n' := 8) dX6_finds_7 rfl rfl ?_
  refine w_iadd (n' := 9) dX6_finds_8 rfl ?_
  refine w_iast (n := 0) (n' := 10) dX6_finds_9 rfl rfl (by decide) (by decide) ?_
  refine w_aload_n (i := 0) (n' := 11) dX6_finds_10 rfl rfl rfl ?_
  refine w_get (ci := 6) (j := 5) (n' := 14) dX6_finds_11 rfl fRX6_22 (Nat.le_of_ble_eq_true rfl) (Nat.le_of_ble_eq_true rfl) rfl rfl ?_
  refine w_ldc (v := -1000001) (n' := 16) dX6_finds_14 rfl kRX6_43 ?_
  refine w_iload_n (i := 1) (n' := 17) dX6_finds_16 rfl rfl rfl ?_
  refine w_isub (n' := 18) dX6_finds_17 rfl ?_
  refine w_iconst (v := 1) (n' := 19) dX6_finds_18 rfl rfl ?_
  refine w_iadd (n' := 20) dX6_finds_19 rfl ?_
  refine w_dup2 (n' := 21) dX6_finds_20 rfl rfl rfl ?_
  refine w_iald (n := w + 1) (n' := 22) dX6_finds_21 rfl rfl hix (show w + 1 < 8 by omega) ?_
  refine w_iconst (v := 1) (n' := 23) dX6_finds_22 rfl rfl ?_
  refine w_iadd (n' := 24) dX6_finds_23 rfl ?_
  refine w_iast (n := w + 1) (n' := 25) dX6_finds_24 rfl rfl hix (show w + 1 < 8 by omega) ?_
  refine w_iload_n (i := 1) (n' := 26) dX6_finds_25 rfl rfl rfl ?_
  exact w_iret dX6_finds_26 rfl ⟨rfl, by unfold fndM; rw [up2_v mem 55 0 _ 55 (w + 1), if_neg (by omega)]⟩
set_option maxHeartbeats 4000000 in
theorem c6_becomes {p : Nat} (a v : Int32) (ha : a = nI p) (hp : p < 56) (mem : Mem) : CnE mX6_becomes [.ref 50, .int a, .int v] mem (some (.int (mem 51 p))) (up2 mem 51 p v) := by
  refine Cn.of (ls := [some (.ref 50), some (.int a), some (.int v), none]) (by decide) rfl (Nat.le_of_ble_eq_true rfl) ?_
  refine w_aload_n (i := 0) (n' := 1) dX6_becomes_0 rfl rfl rfl ?_
  refine w_get (ci := 6) (j := 0) (n' := 4) dX6_becomes_1 rfl fRX6_7 (Nat.le_of_ble_eq_true rfl) (Nat.le_of_ble_eq_true rfl) rfl rfl ?_
  refine w_iload_n (i := 1) (n' := 5) dX6_becomes_4 rfl rfl rfl ?_
  refine w_iald (n := p) (n' := 6) dX6_becomes_5 rfl rfl ha (show p < 56 from hp) ?_
  refine w_istore_n (i := 3) (n' := 7) (ls' := [_, _, _, _]) dX6_becomes_6 rfl rfl (Nat.le_of_ble_eq_true rfl) rfl rfl ?_
  refine w_aload_n (i := 0) (n' := 8) dX6_becomes_7 rfl rfl rfl ?_
  refine w_get (ci := 6) (j := 0) (n' := 11) dX6_becomes_8 rfl fRX6_7 (Nat.le_of_ble_eq_true rfl) (Nat.le_of_ble_eq_true rfl) rfl rfl ?_
  refine w_iload_n (i := 1) (n' := 12) dX6_becomes_11 rfl rfl rfl ?_
  refine w_iload_n (i := 2) (n' := 13) dX6_becomes_12 rfl rfl rfl ?_
  refine w_iast (n := p) (n' := 14) dX6_becomes_13 rfl rfl ha (show p < 56 from hp) ?_
  refine w_iload_n (i := 3) (n' := 15) dX6_becomes_14 rfl rfl rfl ?_
  exact w_iret dX6_becomes_15 rfl ⟨rfl, rfl⟩
def rowP (m : Mem) (a b i : Nat) : Mem := upR m b (fun j => if j < i then m a j else m b j)
theorem rowP_0 (m : Mem) (a b : Nat) : rowP m a b 0 = m := by
  funext k
  unfold rowP
  by_cases h : k = b
  · subst h; rw [upR_same]; funext j; simp
  · rw [upR_ne _ _ h]
theorem rowP_succ (m : Mem) {a b : Nat} (h : a ≠ b) (i : Nat) : up2 (rowP m a b i) b i (rowP m a b i a i) = rowP m a b (i + 1) := by
  have e : rowP m a b i a = m a := by unfold rowP; rw [upR_ne _ _ h]
  rw [e]
  funext k
  by_cases hk : k = b
  · subst hk
    rw [up2_same]
    unfold rowP
    rw [upR_same, upR_same]
    funext j
    by_cases hj : j = i
    · subst hj; simp [upd]
    · simp only [upd, hj, if_false]
      by_cases h2 : j < i
      · rw [if_pos h2, if_pos (by omega)]
      · rw [if_neg h2, if_neg (by omega)]
  · rw [up2_ne _ _ _ hk]
    unfold rowP
    rw [upR_ne _ _ hk, upR_ne _ _ hk]
set_option maxHeartbeats 4000000 in
theorem c6_copyRow {a b : Nat} (ka : kd a = 10) (kb : kd b = 10) (la : al a = 56) (lb : al b = 56) (hne : a ≠ b) (mem : Mem) : CnE mX6_copyRow [.ref a, .ref b] mem none (rowC mem a b) := by
  refine Cn.of (ls := [some (.ref a), some (.ref b), none]) (by decide) rfl (Nat.le_of_ble_eq_true rfl) ?_
  refine w_iconst (v := 0) (n' := 1) dX6_copyRow_0 rfl rfl ?_
  refine w_istore_n (i := 2) (n' := 2) (ls' := [_, _, _]) dX6_copyRow_1 rfl rfl (Nat.le_of_ble_eq_true rfl) rfl rfl ?_
  have L : ∀ (i : Nat) (s : Mem), i ≤ 56 → s = rowP mem a b i → Wm mX6_copyRow (zM mX6_copyRow (fun r' m' => r' = none ∧ m' = (rowC mem a b))) 2 [some (.ref a), some (.ref b), some (.int (nI i))] [] s := by
    refine for_ind 56 ?_
    intro i s hi h1 ih
    subst h1
    refine w_iload_n (i := 2) (n' := 3) dX6_copyRow_2 rfl rfl rfl ?_
    refine w_bipush (v := 56) (n' := 5) dX6_copyRow_3 rfl (by decide) ?_
    refine w_icmp_ge (n' := 8) (tgt := 20) dX6_copyRow_5 rfl rfl (fun h5 => ?_) (fun h5 => ?_)
    · have hin : i = 56 := by
        rcases Nat.lt_or_ge i 56 with c | c
        · exact absurd h5 (by exact nI_ge (b := 56) c (by omega))
        · omega
      subst hin
      exact w_vret dX6_copyRow_20 rfl ⟨rfl, rfl⟩
    · have hlt : i < 56 := by
        rcases Nat.lt_or_ge i 56 with c | c
        · exact c
        · exact absurd (by exact nI_le (a := 56) c (by omega)) h5
      refine w_aload_n (i := 1) (n' := 9) dX6_copyRow_8 rfl rfl rfl ?_
      refine w_iload_n (i := 2) (n' := 10) dX6_copyRow_9 rfl rfl rfl ?_
      refine w_aload_n (i := 0) (n' := 11) dX6_copyRow_10 rfl rfl rfl ?_
      refine w_iload_n (i := 2) (n' := 12) dX6_copyRow_11 rfl rfl rfl ?_
      refine w_iald (n := i) (n' := 13) dX6_copyRow_12 rfl ka rfl (by rw [la]; exact hlt) ?_
      refine w_iast (n := i) (n' := 14) dX6_copyRow_13 rfl kb rfl (by rw [lb]; exact hlt) ?_
      refine w_iinc (n' := 17) (v := nI (i + 1)) (ls' := [_, _, _]) dX6_copyRow_14 rfl rfl (nI_1 i) (Nat.le_of_ble_eq_true rfl) rfl rfl ?_
      refine w_goto (tgt := 2) dX6_copyRow_17 rfl ?_
      exact ih hlt _ (rowP_succ mem hne i)
  exact L 0 _ (Nat.zero_le _) (rowP_0 _ _ _).symm
set_option maxHeartbeats 4000000 in
theorem c6_isFarm {n : Nat} {mem : Mem} (h : mem 51 0 = nI n) (h8 : n ≤ 8) (f : Int32) : CnE mX6_isFarm [.ref 50, .int f] mem (some (.int (inR f 0 (nI n - 1)))) mem := by
  rw [← isF_eq (n := n) (by omega)]
  refine Cn.of (ls := [some (.ref 50), some (.int f)]) (by decide) rfl (Nat.le_of_ble_eq_true rfl) ?_
  refine w_iload_n (i := 1) (n' := 1) dX6_isFarm_0 rfl rfl rfl ?_
  refine w_if_lt (n' := 4) (tgt := 18) dX6_isFarm_1 rfl rfl (fun h1 => ?_) (fun h1 => ?_)
  · refine w_iconst (v := 0) (n' := 19) dX6_isFarm_18 rfl rfl ?_
    exact w_zret dX6_isFarm_19 rfl rfl ⟨by simp [*], rfl⟩
  · refine w_iload_n (i := 1) (n' := 5) dX6_isFarm_4 rfl rfl rfl ?_
    refine w_aload_n (i := 0) (n' := 6) dX6_isFarm_5 rfl rfl rfl ?_
    refine w_get (ci := 6) (j := 0) (n' := 9) dX6_isFarm_6 rfl fRX6_7 (Nat.le_of_ble_eq_true rfl) (Nat.le_of_ble_eq_true rfl) rfl rfl ?_
    refine w_iconst (v := 0) (n' := 10) dX6_isFarm_9 rfl rfl ?_
    refine w_iald (n := 0) (n' := 11) dX6_isFarm_10 rfl rfl (by decide) (by decide) ?_
    refine w_icmp_ge (n' := 14) (tgt := 18) dX6_isFarm_11 rfl rfl (fun h11 => ?_) (fun h11 => ?_)
    · rw [h] at h11
      refine w_iconst (v := 0) (n' := 19) dX6_isFarm_18 rfl rfl ?_
      exact w_zret dX6_isFarm_19 rfl rfl ⟨by simp [*], rfl⟩
    · rw [h] at h11
      refine w_iconst (v := 1) (n' := 15) dX6_isFarm_14 rfl rfl ?_
      refine w_goto (tgt := 19) dX6_isFarm_15 rfl ?_
      exact w_zret dX6_isFarm_19 rfl rfl ⟨by simp [*], rfl⟩
set_option maxHeartbeats 4000000 in
theorem c6_its {i j : Nat} (f a : Int32) (hf : f = nI i) (ha : a = nI j) (hb : 6 + 5 * i + j < 56) (mem : Mem) : CnE mX6_its [.ref 50, .int f, .int a] mem (some (.int (mem 51 (6 + 5 * i + j)))) mem := by
  have hix : 6 + 5 * f + a = nI (6 + 5 * i + j) := by
    rw [hf, ha, show (6 : Int32) = nI 6 from rfl, show (5 : Int32) = nI 5 from rfl, pk_mul, nI_add, nI_add]
  refine Cn.of (ls := [some (.ref 50), some (.int f), some (.int a)]) (by decide) rfl (Nat.le_of_ble_eq_true rfl) ?_
  refine w_aload_n (i := 0) (n' := 1) dX6_its_0 rfl rfl rfl ?_
  refine w_get (ci := 6) (j := 0) (n' := 4) dX6_its_1 rfl fRX6_7 (Nat.le_of_ble_eq_true rfl) (Nat.le_of_ble_eq_true rfl) rfl rfl ?_
  refine w_bipush (v := 6) (n' := 6) dX6_its_4 rfl (by decide) ?_
  refine w_iconst (v := 5) (n' := 7) dX6_its_6 rfl rfl ?_
  refine w_iload_n (i := 1) (n' := 8) dX6_its_7 rfl rfl rfl ?_
  refine w_imul (n' := 9) dX6_its_8 rfl ?_
  refine w_iadd (n' := 10) dX6_its_9 rfl ?_
  refine w_iload_n (i := 2) (n' := 11) dX6_its_10 rfl rfl rfl ?_
  refine w_iadd (n' := 12) dX6_its_11 rfl ?_
  refine w_iald (n := 6 + 5 * i + j) (n' := 13) dX6_its_12 rfl rfl hix (show 6 + 5 * i + j < 56 from hb) ?_
  exact w_iret dX6_its_13 rfl ⟨rfl, rfl⟩
set_option maxHeartbeats 4000000 in
theorem c6_least (a b : Int32) (mem : Mem) : CnE mX6_least [.int a, .int b] mem (some (.int (minI a b))) mem := by
  rw [← minI_le]
  refine Cn.of (ls := [some (.int a), some (.int b)]) (by decide) rfl (Nat.le_of_ble_eq_true rfl) ?_
  refine w_iload_n (i := 0) (n' := 1) dX6_least_0 rfl rfl rfl ?_
  refine w_iload_n (i := 1) (n' := 2) dX6_least_1 rfl rfl rfl ?_
  refine w_icmp_ge (n' := 5) (tgt := 9) dX6_least_2 rfl rfl (fun h2 => ?_) (fun h2 => ?_)
  · refine w_iload_n (i := 1) (n' := 10) dX6_least_9 rfl rfl rfl ?_
    exact w_iret dX6_least_10 rfl ⟨by simp [*], rfl⟩
  · refine w_iload_n (i := 0) (n' := 6) dX6_least_5 rfl rfl rfl ?_
    refine w_goto (tgt := 10) dX6_least_6 rfl ?_
    exact w_iret dX6_least_10 rfl ⟨by simp [*], rfl⟩
set_option maxHeartbeats 4000000 in
theorem c6_greatest (a b : Int32) (mem : Mem) : CnE mX6_greatest [.int a, .int b] mem (some (.int (maxI a b))) mem := by
  rw [← maxI_le]
  refine Cn.of (ls := [some (.int a), some (.int b)]) (by decide) rfl (Nat.le_of_ble_eq_true rfl) ?_
  refine w_iload_n (i := 0) (n' := 1) dX6_greatest_0 rfl rfl rfl ?_
  refine w_iload_n (i := 1) (n' := 2) dX6_greatest_1 rfl rfl rfl ?_
  refine w_icmp_le (n' := 5) (tgt := 9) dX6_greatest_2 rfl rfl (fun h2 => ?_) (fun h2 => ?_)
  · refine w_iload_n (i := 1) (n' := 10) dX6_greatest_9 rfl rfl rfl ?_
    exact w_iret dX6_greatest_10 rfl ⟨by simp [*], rfl⟩
  · refine w_iload_n (i := 0) (n' := 6) dX6_greatest_5 rfl rfl rfl ?_
    refine w_goto (tgt := 10) dX6_greatest_6 rfl ?_
    exact w_iret dX6_greatest_10 rfl ⟨by simp [*], rfl⟩
set_option maxHeartbeats 4000000 in
theorem c6_orNone (v : Int32) (mem : Mem) : CnI mX6_orNone [.ref 50, .int v] mem (fun x m' => (¬ 0 ≤ v ∧ x = -1000004 ∧ m' = fndM mem 3) ∨ (0 ≤ v ∧ x = v ∧ m' = mem)) := by
  refine Cn.of (ls := [some (.ref 50), some (.int v)]) (by decide) rfl (Nat.le_of_ble_eq_true rfl) ?_
  refine w_iload_n (i := 1) (n' := 1) dX6_orNone_0 rfl rfl rfl ?_
  refine w_if_ge (n' := 4) (tgt := 13) dX6_orNone_1 rfl rfl (fun h1 => ?_) (fun h1 => ?_)
  · refine w_iload_n (i := 1) (n' := 14) dX6_orNone_13 rfl rfl rfl ?_
    exact w_iret dX6_orNone_14 rfl ⟨_, rfl, Or.inr ⟨h1, rfl, rfl⟩⟩
  · refine w_aload_n (i := 0) (n' := 5) dX6_orNone_4 rfl rfl rfl ?_
    refine w_ldc (v := -1000004) (n' := 7) dX6_orNone_5 rfl kRX6_44 ?_
    refine v_E (ci := 6) (n' := 10) dX6_orNone_7 rfl lRX6_45 okX6_finds voX6_finds ⟨⟨Nat.le_of_ble_eq_true rfl, Nat.le_of_ble_eq_true rfl⟩, Nat.le_of_ble_eq_true rfl, Nat.le_of_ble_eq_true rfl⟩ (c6_finds 3 _ (by decide) (by decide) _) rfl rfl (Nat.le_of_ble_eq_true rfl) rfl (Nat.le_of_ble_eq_true rfl) rfl ?_
    refine w_goto (tgt := 14) dX6_orNone_10 rfl ?_
    exact w_iret dX6_orNone_14 rfl ⟨_, rfl, Or.inl ⟨h1, rfl, rfl⟩⟩
theorem many_st : ∀ w, w < 256 → 0 < w → nI w &&& (nI w - 1) = nI (w &&& (w - 1)) ∧ w &&& (w - 1) < w ∧ bcI (nI w) = 1 + bcI (nI (w &&& (w - 1))) := by decide +kernel
theorem bcI_0 : bcI (nI 0) = 0 := by decide +kernel
set_option maxHeartbeats 4000000 in
theorem c6_many (w : Nat) (hw : w < 256) (mem : Mem) : CnE mX6_many [.int (nI w)] mem (some (.int (bcI (nI w)))) mem := by
  refine Cn.of (ls := [some (.int (nI w)), none, none]) (by decide) rfl (Nat.le_of_ble_eq_true rfl) ?_
  refine w_iconst (v := 0) (n' := 1) dX6_many_0 rfl rfl ?_
  refine w_istore_n (i := 1) (n' := 2) (ls' := [_, _, _]) dX6_many_1 rfl rfl (Nat.le_of_ble_eq_true rfl) rfl rfl ?_
  refine w_iload_n (i := 0) (n' := 3) dX6_many_2 rfl rfl rfl ?_
  refine w_istore_n (i := 2) (n' := 4) (ls' := [_, _, _]) dX6_many_3 rfl rfl (Nat.le_of_ble_eq_true rfl) rfl rfl ?_
  have L : ∀ (u : Nat), u < 256 → ∀ (c : Int32), c + bcI (nI u) = bcI (nI w) → Wm mX6_many (zM mX6_many (fun r' m' => r' = (some (.int (bcI (nI w)))) ∧ m' = mem)) 4 [some (.int (nI w)), some (.int c), some (.int (nI u))] [] mem := by
    intro u
    induction u using Nat.strongRecOn with
    | ind u ih =>
      intro hu c hc
      refine w_iload_n (i := 2) (n' := 5) dX6_many_4 rfl rfl rfl ?_
      refine w_if_eq (n' := 8) (tgt := 20) dX6_many_5 rfl rfl (fun h5 => ?_) (fun h5 => ?_)
      · have hu0 : u = 0 := by
          rcases Nat.eq_zero_or_pos u with q | q
          · exact q
          · exact absurd h5 (nI_ne0 q (by omega))
        subst hu0
        refine w_iload_n (i := 1) (n' := 21) dX6_many_20 rfl rfl rfl ?_
        exact w_iret dX6_many_21 rfl ⟨by rw [← hc, bcI_0]; simp, rfl⟩
      · have hu0 : 0 < u := by
          rcases Nat.eq_zero_or_pos u with q | q
          · exact absurd (by rw [q]; rfl) h5
          · exact q
        have st := many_st u hu hu0
        refine w_iinc (n' := 11) (v := c + 1) (ls' := [_, _, _]) dX6_many_8 rfl rfl rfl (Nat.le_of_ble_eq_true rfl) rfl rfl ?_
        refine w_iload_n (i := 2) (n' := 12) dX6_many_11 rfl rfl rfl ?_
        refine w_iload_n (i := 2) (n' := 13) dX6_many_12 rfl rfl rfl ?_
        refine w_iconst (v := 1) (n' := 14) dX6_many_13 rfl rfl ?_
        refine w_isub (n' := 15) dX6_many_14 rfl ?_
        refine w_iand (n' := 16) dX6_many_15 rfl ?_
        rw [st.1]
        refine w_istore_n (i := 2) (n' := 17) (ls' := [_, _, _]) dX6_many_16 rfl rfl (Nat.le_of_ble_eq_true rfl) rfl rfl ?_
        refine w_goto (tgt := 4) dX6_many_17 rfl ?_
        exact ih _ (st.2.1) (by omega) _ (by rw [← hc, st.2.2]; rw [Int32.add_assoc])
  exact L w hw 0 (by simp)
set_option maxHeartbeats 4000000 in
theorem c6_weather (a v : Int32) (mem : Mem) : CnI mX6_weather [.ref 50, .int a, .int v] mem (fun x m' => ((inR a 0 2 = 0 ∨ inR v 0 99 = 0) ∧ x = -1000001 ∧ m' = fndM mem 0) ∨ (¬ inR a 0 2 = 0 ∧ ¬ inR v 0 99 = 0 ∧ ∃ n, n ≤ 2 ∧ a = nI n ∧ x = mem 51 (3 + n) ∧ m' = up2 mem 51 (3 + n) v)) := by
  refine Cn.of (ls := [some (.ref 50), some (.int a), some (.int v)]) (by decide) rfl (Nat.le_of_ble_eq_true rfl) ?_
  refine w_iload_n (i := 1) (n' := 1) dX6_weather_0 rfl rfl rfl ?_
  refine w_i2l (v := _) (n' := 2) dX6_weather_1 rfl rfl ?_
  refine w_lconst (v := 0) (n' := 3) dX6_weather_2 rfl rfl ?_
  refine w_ldc2 (v := 2) (n' := 6) dX6_weather_3 rfl kRX6_49 ?_
  refine s_E (n' := 9) dX6_weather_6 rfl lRX6_51 okX6_isIn stX6_isIn ⟨⟨Nat.le_of_ble_eq_true rfl, Nat.le_of_ble_eq_true rfl⟩, Nat.le_of_ble_eq_true rfl, Nat.le_of_ble_eq_true rfl⟩ (c6_isIn _ (0) (2) _ _ (by decide) (by decide) _) rfl rfl (Nat.le_of_ble_eq_true rfl) ?_
  refine w_if_eq (n' := 12) (tgt := 35) dX6_weather_9 rfl rfl (fun h9 => ?_) (fun h9 => ?_)
  · refine w_aload_n (i := 0) (n' := 36) dX6_weather_35 rfl rfl rfl ?_
    refine w_ldc (v := -1000001) (n' := 38) dX6_weather_36 rfl kRX6_43 ?_
    refine v_E (ci := 6) (n' := 41) dX6_weather_38 rfl lRX6_45 okX6_finds voX6_finds ⟨⟨Nat.le_of_ble_eq_true rfl, Nat.le_of_ble_eq_true rfl⟩, Nat.le_of_ble_eq_true rfl, Nat.le_of_ble_eq_true rfl⟩ (c6_finds 0 _ (by decide) (by decide) _) rfl rfl (Nat.le_of_ble_eq_true rfl) rfl (Nat.le_of_ble_eq_true rfl) rfl ?_
    exact w_iret dX6_weather_41 rfl ⟨_, rfl, Or.inl ⟨Or.inl h9, rfl, rfl⟩⟩
  · obtain ⟨n, hn, hw⟩ := inR_of (N := 2) (by decide) h9
    refine w_iload_n (i := 2) (n' := 13) dX6_weather_12 rfl rfl rfl ?_
    refine w_i2l (v := _) (n' := 14) dX6_weather_13 rfl rfl ?_
    refine w_lconst (v := 0) (n' := 15) dX6_weather_14 rfl rfl ?_
    refine w_ldc2 (v := 99) (n' := 18) dX6_weather_15 rfl kRX6_55 ?_
    refine s_E (n' := 21) dX6_weather_18 rfl lRX6_51 okX6_isIn stX6_isIn ⟨⟨Nat.le_of_ble_eq_true rfl, Nat.le_of_ble_eq_true rfl⟩, Nat.le_of_ble_eq_true rfl, Nat.le_of_ble_eq_true rfl⟩ (c6_isIn _ (0) (99) _ _ (by decide) (by decide) _) rfl rfl (Nat.le_of_ble_eq_true rfl) ?_
    refine w_if_eq (n' := 24) (tgt := 35) dX6_weather_21 rfl rfl (fun h21 => ?_) (fun h21 => ?_)
    · refine w_aload_n (i := 0) (n' := 36) dX6_weather_35 rfl rfl rfl ?_
      refine w_ldc (v := -1000001) (n' := 38) dX6_weather_36 rfl kRX6_43 ?_
      refine v_E (ci := 6) (n' := 41) dX6_weather_38 rfl lRX6_45 okX6_finds voX6_finds ⟨⟨Nat.le_of_ble_eq_true rfl, Nat.le_of_ble_eq_true rfl⟩, Nat.le_of_ble_eq_true rfl, Nat.le_of_ble_eq_true rfl⟩ (c6_finds 0 _ (by decide) (by decide) _) rfl rfl (Nat.le_of_ble_eq_true rfl) rfl (Nat.le_of_ble_eq_true rfl) rfl ?_
      exact w_iret dX6_weather_41 rfl ⟨_, rfl, Or.inl ⟨Or.inr h21, rfl, rfl⟩⟩
    · refine w_aload_n (i := 0) (n' := 25) dX6_weather_24 rfl rfl rfl ?_
      refine w_iconst (v := 3) (n' := 26) dX6_weather_25 rfl rfl ?_
      refine w_iload_n (i := 1) (n' := 27) dX6_weather_26 rfl rfl rfl ?_
      refine w_iadd (n' := 28) dX6_weather_27 rfl ?_
      refine w_iload_n (i := 2) (n' := 29) dX6_weather_28 rfl rfl rfl ?_
      refine v_E (ci := 6) (n' := 32) dX6_weather_29 rfl lRX6_57 okX6_becomes voX6_becomes ⟨⟨Nat.le_of_ble_eq_true rfl, Nat.le_of_ble_eq_true rfl⟩, Nat.le_of_ble_eq_true rfl, Nat.le_of_ble_eq_true rfl⟩ (c6_becomes (p := 3 + n) _ _ (by rw [hw, ← nI_add]; rfl) (by omega) _) rfl rfl (Nat.le_of_ble_eq_true rfl) rfl (Nat.le_of_ble_eq_true rfl) rfl ?_
      refine w_goto (tgt := 41) dX6_weather_32 rfl ?_
      exact w_iret dX6_weather_41 rfl ⟨_, rfl, Or.inr ⟨h9, h21, n, hn, hw, rfl, rfl⟩⟩
def comM (m : Mem) (n : Nat) (a b : Int32) : Mem := up2 (up2 (up2 (up2 (up2 (up2 m 51 (6 + 5 * n) a) 51 (6 + 5 * n + 1) b) 51 (6 + 5 * n + 2) 4) 51 (6 + 5 * n + 3) 0) 51 (6 + 5 * n + 4) 0) 51 0 (nI (n + 1))
set_option maxHeartbeats 4000000 in
theorem c6_comes {n : Nat} {mem : Mem} (h : mem 51 0 = nI n) (h8 : n < 8) (a b : Int32) : CnE mX6_comes [.ref 50, .int a, .int b] mem none (comM mem n a b) := by
  have hat : 6 + 5 * mem 51 0 = nI (6 + 5 * n) := by
    rw [h, show (6 : Int32) = nI 6 from rfl, show (5 : Int32) = nI 5 from rfl, pk_mul, nI_add]
  refine Cn.of (ls := [some (.ref 50), some (.int a), some (.int b), none]) (by decide) rfl (Nat.le_of_ble_eq_true rfl) ?_
  refine w_bipush (v := 6) (n' := 2) dX6_comes_0 rfl (by decide) ?_
  refine w_iconst (v := 5) (n' := 3) dX6_comes_2 rfl rfl ?_
  refine w_aload_n (i := 0) (n' := 4) dX6_comes_3 rfl rfl rfl ?_
  refine w_get (ci := 6) (j := 0) (n' := 7) dX6_comes_4 rfl fRX6_7 (Nat.le_of_ble_eq_true rfl) (Nat.le_of_ble_eq_true rfl) rfl rfl ?_
  refine w_iconst (v := 0) (n' := 8) dX6_comes_7 rfl rfl ?_
  refine w_iald (n := 0) (n' := 9) dX6_comes_8 rfl rfl (by decide) (by decide) ?_
  refine w_imul (n' := 10) dX6_comes_9 rfl ?_
  refine w_iadd (n' := 11) dX6_comes_10 rfl ?_
  refine w_istore_n (i := 3) (n' := 12) (ls' := [_, _, _, _]) dX6_comes_11 rfl rfl (Nat.le_of_ble_eq_true rfl) rfl rfl ?_
  refine w_aload_n (i := 0) (n' := 13) dX6_comes_12 rfl rfl rfl ?_
  refine w_get (ci := 6) (j := 0) (n' := 16) dX6_comes_13 rfl fRX6_7 (Nat.le_of_ble_eq_true rfl) (Nat.le_of_ble_eq_true rfl) rfl rfl ?_
  refine w_iload_n (i := 3) (n' := 17) dX6_comes_16 rfl rfl rfl ?_
  refine w_iload_n (i := 1) (n' := 18) dX6_comes_17 rfl rfl rfl ?_
  refine w_iast (n := 6 + 5 * n) (n' := 19) dX6_comes_18 rfl rfl hat (show 6 + 5 * n < 56 by omega) ?_
  refine w_aload_n (i := 0) (n' := 20) dX6_comes_19 rfl rfl rfl ?_
  refine w_get (ci := 6) (j := 0) (n' := 23) dX6_comes_20 rfl fRX6_7 (Nat.le_of_ble_eq_true rfl) (Nat.le_of_ble_eq_true rfl) rfl rfl ?_
  refine w_iload_n (i := 3) (n' := 24) dX6_comes_23 rfl rfl rfl ?_
  refine w_iconst (v := 1) (n' := 25) dX6_comes_24 rfl rfl ?_
  refine w_iadd (n' := 26) dX6_comes_25 rfl ?_
  refine w_iload_n (i := 2) (n' := 27) dX6_comes_26 rfl rfl rfl ?_
  refine w_iast (n := 6 + 5 * n + 1) (n' := 28) dX6_comes_27 rfl rfl (by rw [hat, show (1 : Int32) = nI 1 from rfl, nI_add]) (show 6 + 5 * n + 1 < 56 by omega) ?_
  refine w_aload_n (i := 0) (n' := 29) dX6_comes_28 rfl rfl rfl ?_
  refine w_get (ci := 6) (j := 0) (n' := 32) dX6_comes_29 rfl fRX6_7 (Nat.le_of_ble_eq_true rfl) (Nat.le_of_ble_eq_true rfl) rfl rfl ?_
  refine w_iload_n (i := 3) (n' := 33) dX6_comes_32 rfl rfl rfl ?_
  refine w_iconst (v := 2) (n' := 34) dX6_comes_33 rfl rfl ?_
  refine w_iadd (n' := 35) dX6_comes_34 rfl ?_
  refine w_iconst (v := 4) (n' := 36) dX6_comes_35 rfl rfl ?_
  refine w_iast (n := 6 + 5 * n + 2) (n' := 37) dX6_comes_36 rfl rfl (by rw [hat, show (2 : Int32) = nI 2 from rfl, nI_add]) (show 6 + 5 * n + 2 < 56 by omega) ?_
  refine w_aload_n (i := 0) (n' := 38) dX6_comes_37 rfl rfl rfl ?_
  refine w_get (ci := 6) (j := 0) (n' := 41) dX6_comes_38 rfl fRX6_7 (Nat.le_of_ble_eq_true rfl) (Nat.le_of_ble_eq_true rfl) rfl rfl ?_
  refine w_iload_n (i := 3) (n' := 42) dX6_comes_41 rfl rfl rfl ?_
  refine w_iconst (v := 3) (n' := 43) dX6_comes_42 rfl rfl ?_
  refine w_iadd (n' := 44) dX6_comes_43 rfl ?_
  refine w_iconst (v := 0) (n' := 45) dX6_comes_44 rfl rfl ?_
  refine w_iast (n := 6 + 5 * n + 3) (n' := 46) dX6_comes_45 rfl rfl (by rw [hat, show (3 : Int32) = nI 3 from rfl, nI_add]) (show 6 + 5 * n + 3 < 56 by omega) ?_
  refine w_aload_n (i := 0) (n' := 47) dX6_comes_46 rfl rfl rfl ?_
  refine w_get (ci := 6) (j := 0) (n' := 50) dX6_comes_47 rfl fRX6_7 (Nat.le_of_ble_eq_true rfl) (Nat.le_of_ble_eq_true rfl) rfl rfl ?_
  refine w_iload_n (i := 3) (n' := 51) dX6_comes_50 rfl rfl rfl ?_
  refine w_iconst (v := 4) (n' := 52) dX6_comes_51 rfl rfl ?_
  refine w_iadd (n' := 53) dX6_comes_52 rfl ?_
  refine w_iconst (v := 0) (n' := 54) dX6_comes_53 rfl rfl ?_
  refine w_iast (n := 6 + 5 * n + 4) (n' := 55) dX6_comes_54 rfl rfl (by rw [hat, show (4 : Int32) = nI 4 from rfl, nI_add]) (show 6 + 5 * n + 4 < 56 by omega) ?_
  refine w_aload_n (i := 0) (n' := 56) dX6_comes_55 rfl rfl rfl ?_
  refine w_get (ci := 6) (j := 0) (n' := 59) dX6_comes_56 rfl fRX6_7 (Nat.le_of_ble_eq_true rfl) (Nat.le_of_ble_eq_true rfl) rfl rfl ?_
  refine w_iconst (v := 0) (n' := 60) dX6_comes_59 rfl rfl ?_
  refine w_dup2 (n' := 61) dX6_comes_60 rfl rfl rfl ?_
  refine w_iald (n := 0) (n' := 62) dX6_comes_61 rfl rfl (by decide) (by decide) ?_
  refine w_iconst (v := 1) (n' := 63) dX6_comes_62 rfl rfl ?_
  refine w_iadd (n' := 64) dX6_comes_63 rfl ?_
  refine w_iast (n := 0) (n' := 65) dX6_comes_64 rfl rfl (by decide) (by decide) ?_
  exact w_vret dX6_comes_65 rfl ⟨rfl, by unfold comM; simp only [up2_v]; simp [h, show ¬ 0 = 6 + 5 * n by omega, nI_1]⟩
set_option maxHeartbeats 4000000 in
theorem c6_farm {n : Nat} {mem : Mem} (h : mem 51 0 = nI n) (h8 : n ≤ 8) (a v : Int32) : CnI mX6_farm [.ref 50, .int a, .int v] mem (fun x m' => ((inR a 0 6 = 0 ∨ inR v 0 999 = 0) ∧ x = -1000001 ∧ m' = fndM mem 0) ∨ (¬ inR a 0 6 = 0 ∧ ¬ inR v 0 999 = 0 ∧ n = 8 ∧ x = -1000002 ∧ m' = fndM mem 1) ∨ (¬ inR a 0 6 = 0 ∧ ¬ inR v 0 999 = 0 ∧ n < 8 ∧ x = nI n ∧ m' = comM mem n a v)) := by
  refine Cn.of (ls := [some (.ref 50), some (.int a), some (.int v)]) (by decide) rfl (Nat.le_of_ble_eq_true rfl) ?_
  refine w_iload_n (i := 1) (n' := 1) dX6_farm_0 rfl rfl rfl ?_
  refine w_i2l (v := _) (n' := 2) dX6_farm_1 rfl rfl ?_
  refine w_lconst (v := 0) (n' := 3) dX6_farm_2 rfl rfl ?_
  refine w_ldc2 (v := 6) (n' := 6) dX6_farm_3 rfl kRX6_61 ?_
  refine s_E (n' := 9) dX6_farm_6 rfl lRX6_51 okX6_isIn stX6_isIn ⟨⟨Nat.le_of_ble_eq_true rfl, Nat.le_of_ble_eq_true rfl⟩, Nat.le_of_ble_eq_true rfl, Nat.le_of_ble_eq_true rfl⟩ (c6_isIn _ (0) (6) _ _ (by decide) (by decide) _) rfl rfl (Nat.le_of_ble_eq_true rfl) ?_
  refine w_if_eq (n' := 12) (tgt := 24) dX6_farm_9 rfl rfl (fun h9 => ?_) (fun h9 => ?_)
  · refine w_aload_n (i := 0) (n' := 25) dX6_farm_24 rfl rfl rfl ?_
    refine w_ldc (v := -1000001) (n' := 27) dX6_farm_25 rfl kRX6_43 ?_
    refine v_E (ci := 6) (n' := 30) dX6_farm_27 rfl lRX6_45 okX6_finds voX6_finds ⟨⟨Nat.le_of_ble_eq_true rfl, Nat.le_of_ble_eq_true rfl⟩, Nat.le_of_ble_eq_true rfl, Nat.le_of_ble_eq_true rfl⟩ (c6_finds 0 _ (by decide) (by decide) _) rfl rfl (Nat.le_of_ble_eq_true rfl) rfl (Nat.le_of_ble_eq_true rfl) rfl ?_
    exact w_iret dX6_farm_30 rfl ⟨_, rfl, Or.inl ⟨Or.inl h9, rfl, rfl⟩⟩
  · refine w_iload_n (i := 2) (n' := 13) dX6_farm_12 rfl rfl rfl ?_
    refine w_i2l (v := _) (n' := 14) dX6_farm_13 rfl rfl ?_
    refine w_lconst (v := 0) (n' := 15) dX6_farm_14 rfl rfl ?_
    refine w_ldc2 (v := 999) (n' := 18) dX6_farm_15 rfl kRX6_63 ?_
    refine s_E (n' := 21) dX6_farm_18 rfl lRX6_51 okX6_isIn stX6_isIn ⟨⟨Nat.le_of_ble_eq_true rfl, Nat.le_of_ble_eq_true rfl⟩, Nat.le_of_ble_eq_true rfl, Nat.le_of_ble_eq_true rfl⟩ (c6_isIn _ (0) (999) _ _ (by decide) (by decide) _) rfl rfl (Nat.le_of_ble_eq_true rfl) ?_
    refine w_if_ne (n' := 24) (tgt := 31) dX6_farm_21 rfl rfl (fun h21 => ?_) (fun h21 => ?_)
    · refine w_aload_n (i := 0) (n' := 32) dX6_farm_31 rfl rfl rfl ?_
      refine w_get (ci := 6) (j := 0) (n' := 35) dX6_farm_32 rfl fRX6_7 (Nat.le_of_ble_eq_true rfl) (Nat.le_of_ble_eq_true rfl) rfl rfl ?_
      refine w_iconst (v := 0) (n' := 36) dX6_farm_35 rfl rfl ?_
      refine w_iald (n := 0) (n' := 37) dX6_farm_36 rfl rfl (by decide) (by decide) ?_
      refine w_bipush (v := 8) (n' := 39) dX6_farm_37 rfl (by decide) ?_
      refine w_icmp_ne (n' := 42) (tgt := 49) dX6_farm_39 rfl rfl (fun h39 => ?_) (fun h39 => ?_)
      · have hn : n < 8 := by
          rcases Nat.lt_or_ge n 8 with q | q
          · exact q
          · exact absurd (by rw [h, show n = 8 by omega]; rfl) h39
        refine w_aload_n (i := 0) (n' := 50) dX6_farm_49 rfl rfl rfl ?_
        refine w_iload_n (i := 1) (n' := 51) dX6_farm_50 rfl rfl rfl ?_
        refine w_iload_n (i := 2) (n' := 52) dX6_farm_51 rfl rfl rfl ?_
        refine v_E (ci := 6) (n' := 55) dX6_farm_52 rfl lRX6_66 okX6_comes voX6_comes ⟨⟨Nat.le_of_ble_eq_true rfl, Nat.le_of_ble_eq_true rfl⟩, Nat.le_of_ble_eq_true rfl, Nat.le_of_ble_eq_true rfl⟩ (c6_comes h hn _ _) rfl rfl (Nat.le_of_ble_eq_true rfl) rfl (Nat.le_of_ble_eq_true rfl) rfl ?_
        refine w_aload_n (i := 0) (n' := 56) dX6_farm_55 rfl rfl rfl ?_
        refine w_get (ci := 6) (j := 0) (n' := 59) dX6_farm_56 rfl fRX6_7 (Nat.le_of_ble_eq_true rfl) (Nat.le_of_ble_eq_true rfl) rfl rfl ?_
        refine w_iconst (v := 0) (n' := 60) dX6_farm_59 rfl rfl ?_
        refine w_iald (n := 0) (n' := 61) dX6_farm_60 rfl rfl (by decide) (by decide) ?_
        refine w_iconst (v := 1) (n' := 62) dX6_farm_61 rfl rfl ?_
        refine w_isub (n' := 63) dX6_farm_62 rfl ?_
        exact w_iret dX6_farm_63 rfl ⟨_, rfl, Or.inr (Or.inr ⟨h9, h21, hn, by simp only [comM, up2_v]; simp [nI_pred], rfl⟩)⟩
      · have hn : n = 8 := by
          rw [h] at h39
          exact (nI_eq (b := 8) (by omega) (by omega)).mp (show nI n = nI 8 from (by simpa using h39 : nI n = (8 : Int32)))
        refine w_aload_n (i := 0) (n' := 43) dX6_farm_42 rfl rfl rfl ?_
        refine w_ldc (v := -1000002) (n' := 45) dX6_farm_43 rfl kRX6_65 ?_
        refine v_E (ci := 6) (n' := 48) dX6_farm_45 rfl lRX6_45 okX6_finds voX6_finds ⟨⟨Nat.le_of_ble_eq_true rfl, Nat.le_of_ble_eq_true rfl⟩, Nat.le_of_ble_eq_true rfl, Nat.le_of_ble_eq_true rfl⟩ (c6_finds 1 _ (by decide) (by decide) _) rfl rfl (Nat.le_of_ble_eq_true rfl) rfl (Nat.le_of_ble_eq_true rfl) rfl ?_
        exact w_iret dX6_farm_48 rfl ⟨_, rfl, Or.inr (Or.inl ⟨h9, h21, hn, rfl, rfl⟩)⟩
    · refine w_aload_n (i := 0) (n' := 25) dX6_farm_24 rfl rfl rfl ?_
      refine w_ldc (v := -1000001) (n' := 27) dX6_farm_25 rfl kRX6_43 ?_
      refine v_E (ci := 6) (n' := 30) dX6_farm_27 rfl lRX6_45 okX6_finds voX6_finds ⟨⟨Nat.le_of_ble_eq_true rfl, Nat.le_of_ble_eq_true rfl⟩, Nat.le_of_ble_eq_true rfl, Nat.le_of_ble_eq_true rfl⟩ (c6_finds 0 _ (by decide) (by decide) _) rfl rfl (Nat.le_of_ble_eq_true rfl) rfl (Nat.le_of_ble_eq_true rfl) rfl ?_
      exact w_iret dX6_farm_30 rfl ⟨_, rfl, Or.inl ⟨Or.inr (by simpa using h21), rfl, rfl⟩⟩
set_option maxHeartbeats 4000000 in
theorem c6_isAsked (q : Int32) (mem : Mem) : CnE mX6_isAsked [.int q] mem (some (.int (inR q (-99) 99))) mem := by
  refine Cn.of (ls := [some (.int q)]) (by decide) rfl (Nat.le_of_ble_eq_true rfl) ?_
  refine w_iload_n (i := 0) (n' := 1) dX6_isAsked_0 rfl rfl rfl ?_
  refine w_i2l (v := _) (n' := 2) dX6_isAsked_1 rfl rfl ?_
  refine w_ldc2 (v := -99) (n' := 5) dX6_isAsked_2 rfl kRX6_134 ?_
  refine w_ldc2 (v := 99) (n' := 8) dX6_isAsked_5 rfl kRX6_55 ?_
  refine s_E (n' := 11) dX6_isAsked_8 rfl lRX6_51 okX6_isIn stX6_isIn ⟨⟨Nat.le_of_ble_eq_true rfl, Nat.le_of_ble_eq_true rfl⟩, Nat.le_of_ble_eq_true rfl, Nat.le_of_ble_eq_true rfl⟩ (c6_isIn _ (-99) (99) _ _ (by decide) (by decide) _) rfl rfl (Nat.le_of_ble_eq_true rfl) ?_
  exact w_zret dX6_isAsked_11 rfl (inR_nar _ _ _) ⟨rfl, rfl⟩
set_option maxHeartbeats 4000000 in
theorem c6_isLong (q : Int32) (mem : Mem) : CnE mX6_isLong [.int q] mem (some (.int (inR q 0 60))) mem := by
  refine Cn.of (ls := [some (.int q)]) (by decide) rfl (Nat.le_of_ble_eq_true rfl) ?_
  refine w_iload_n (i := 0) (n' := 1) dX6_isLong_0 rfl rfl rfl ?_
  refine w_i2l (v := _) (n' := 2) dX6_isLong_1 rfl rfl ?_
  refine w_lconst (v := 0) (n' := 3) dX6_isLong_2 rfl rfl ?_
  refine w_ldc2 (v := 60) (n' := 6) dX6_isLong_3 rfl kRX6_145 ?_
  refine s_E (n' := 9) dX6_isLong_6 rfl lRX6_51 okX6_isIn stX6_isIn ⟨⟨Nat.le_of_ble_eq_true rfl, Nat.le_of_ble_eq_true rfl⟩, Nat.le_of_ble_eq_true rfl, Nat.le_of_ble_eq_true rfl⟩ (c6_isIn _ (0) (60) _ _ (by decide) (by decide) _) rfl rfl (Nat.le_of_ble_eq_true rfl) ?_
  exact w_zret dX6_isLong_9 rfl (inR_nar _ _ _) ⟨rfl, rfl⟩
set_option maxHeartbeats 4000000 in
theorem c6_isCut (a b : Int32) (mem : Mem) : CnE mX6_isCut [.int a, .int b] mem (some (.int (if inR a 1 200 = 0 then 0 else if inR b 1 20 = 0 then 0 else 1))) mem := by
  refine Cn.of (ls := [some (.int a), some (.int b)]) (by decide) rfl (Nat.le_of_ble_eq_true rfl) ?_
  refine w_iload_n (i := 0) (n' := 1) dX6_isCut_0 rfl rfl rfl ?_
  refine w_i2l (v := _) (n' := 2) dX6_isCut_1 rfl rfl ?_
  refine w_lconst (v := 1) (n' := 3) dX6_isCut_2 rfl rfl ?_
  refine w_ldc2 (v := 200) (n' := 6) dX6_isCut_3 rfl kRX6_177 ?_
  refine s_E (n' := 9) dX6_isCut_6 rfl lRX6_51 okX6_isIn stX6_isIn ⟨⟨Nat.le_of_ble_eq_true rfl, Nat.le_of_ble_eq_true rfl⟩, Nat.le_of_ble_eq_true rfl, Nat.le_of_ble_eq_true rfl⟩ (c6_isIn _ (1) (200) _ _ (by decide) (by decide) _) rfl rfl (Nat.le_of_ble_eq_true rfl) ?_
  refine w_if_eq (n' := 12) (tgt := 28) dX6_isCut_9 rfl rfl (fun h9 => ?_) (fun h9 => ?_)
  · refine w_iconst (v := 0) (n' := 29) dX6_isCut_28 rfl rfl ?_
    exact w_zret dX6_isCut_29 rfl rfl ⟨by simp [*], rfl⟩
  · refine w_iload_n (i := 1) (n' := 13) dX6_isCut_12 rfl rfl rfl ?_
    refine w_i2l (v := _) (n' := 14) dX6_isCut_13 rfl rfl ?_
    refine w_lconst (v := 1) (n' := 15) dX6_isCut_14 rfl rfl ?_
    refine w_ldc2 (v := 20) (n' := 18) dX6_isCut_15 rfl kRX6_94 ?_
    refine s_E (n' := 21) dX6_isCut_18 rfl lRX6_51 okX6_isIn stX6_isIn ⟨⟨Nat.le_of_ble_eq_true rfl, Nat.le_of_ble_eq_true rfl⟩, Nat.le_of_ble_eq_true rfl, Nat.le_of_ble_eq_true rfl⟩ (c6_isIn _ (1) (20) _ _ (by decide) (by decide) _) rfl rfl (Nat.le_of_ble_eq_true rfl) ?_
    refine w_if_eq (n' := 24) (tgt := 28) dX6_isCut_21 rfl rfl (fun h21 => ?_) (fun h21 => ?_)
    · refine w_iconst (v := 0) (n' := 29) dX6_isCut_28 rfl rfl ?_
      exact w_zret dX6_isCut_29 rfl rfl ⟨by simp [*], rfl⟩
    · refine w_iconst (v := 1) (n' := 25) dX6_isCut_24 rfl rfl ?_
      refine w_goto (tgt := 29) dX6_isCut_25 rfl ?_
      exact w_zret dX6_isCut_29 rfl rfl ⟨by simp [*], rfl⟩
