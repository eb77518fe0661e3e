/-! class = reference: leans, years -/
theorem bitI_X (L : Int32) (i : Nat) : bitI L (nI i) = 0 ↔ ¬ (L >>> (nI i &&& 31)) &&& 1 = 1 := by
  unfold bitI
  by_cases c : (L >>> (nI i &&& 31)) &&& 1 = 1
  · rw [if_pos c]
    exact ⟨fun q => absurd q (by decide), fun q => absurd c q⟩
  · rw [if_neg c]
    exact ⟨fun _ => c, fun _ => rfl⟩
theorem sum_eq (F : Nat → Nat → Int32) (L : Int32) : ∀ n, sumC F L n = sumX F L n := by
  intro n
  induction n with
  | zero => rfl
  | succ i ih =>
    rw [sumC, sumX, ih]
    congr 1
    by_cases c : (L >>> (nI i &&& 31)) &&& 1 = 1
    · rw [if_pos c, if_neg (fun q => (bitI_X L i).mp q c), Int32.mul_assoc, Int32.mul_comm]
    · rw [if_neg c, if_pos ((bitI_X L i).mpr c), Int32.mul_assoc, Int32.mul_comm]
theorem sumX_congr {F G : Nat → Nat → Int32} {L : Int32} : ∀ n, (∀ i j, i < n → j < 5 → F i j = G i j) → sumX F L n = sumX G L n := by
  intro n
  induction n with
  | zero => intro _; rfl
  | succ n ih =>
    intro h
    rw [sumX, sumX, ih (fun i j hi hj => h i j (by omega) hj), h n 3 (by omega) (by omega), h n 0 (by omega) (by omega), h n 4 (by omega) (by omega)]
theorem op_n {x : Int32} (h : -9 ≤ x.toInt ∧ x.toInt ≤ 9) : ∃ t, t < 19 ∧ x = nI t - 9 := by
  refine ⟨(x.toInt + 9).toNat, by omega, Int32.toInt_inj.mp ?_⟩
  rw [Int32.toInt_sub, nI_toInt (by omega), show (9 : Int32).toInt = 9 from by decide, Int.bmod_eq_of_le (by omega) (by omega)]
  omega
theorem tell_n {kind had : Int32} {e : Nat} (he : e ≤ 9999) (h : had = nI e) : ∃ u, u < 10 ∧ tellF kind had = nI u - 3 := by
  unfold tellF
  split
  · exact ⟨5, by omega, by decide⟩
  · split
    · exact ⟨6, by omega, by decide⟩
    · split
      · exact ⟨0, by omega, by decide⟩
      · split
        · refine ⟨min 9 e, by omega, ?_⟩
          rw [h, show minI 9 (nI e) = nI (min 9 e) from minI_N (a := 9) (by omega) (by omega)]
          have : ∀ u, u < 10 → (-3 : Int32) + nI u = nI u - 3 := by decide +kernel
          exact this _ (by omega)
        · split
          · exact ⟨3, by omega, by decide⟩
          · split
            · exact ⟨7, by omega, by decide⟩
            · exact ⟨4, by omega, by decide⟩
theorem term_tab : ∀ t, t < 19 → ∀ u, u < 10 → (-162 ≤ ((nI t - 9) * (nI u - 3) * 3).toInt ∧ ((nI t - 9) * (nI u - 3) * 3).toInt ≤ 162) ∧ (-162 ≤ ((nI t - 9) * (nI u - 3) * 1).toInt ∧ ((nI t - 9) * (nI u - 3) * 1).toInt ≤ 162) := by decide +kernel
theorem sum_bd {F : Nat → Nat → Int32} {L : Int32} : ∀ n, n ≤ 8 → (∀ i, i < n → FB (F i)) → -162 * (n : Int) ≤ (sumX F L n).toInt ∧ (sumX F L n).toInt ≤ 162 * (n : Int) := by
  intro n
  induction n with
  | zero => intro _ _; rw [sumX, z_t]; omega
  | succ n ih =>
    intro hn h
    have i1 := ih (by omega) (fun i hi => h i (by omega))
    obtain ⟨-, -, -, ho, ⟨e, he, ee⟩⟩ := h n (by omega)
    obtain ⟨t, ht, et⟩ := op_n ho
    obtain ⟨u, hu, eu⟩ := tell_n (kind := F n 0) he ee
    have tb := term_tab t ht u hu
    rw [sumX, et, eu]
    have key : ∀ x : Int32, -162 ≤ x.toInt ∧ x.toInt ≤ 162 → -162 * ((n + 1 : Nat) : Int) ≤ (sumX F L n + x).toInt ∧ (sumX F L n + x).toInt ≤ 162 * ((n + 1 : Nat) : Int) := by
      intro x hx
      rw [Int32.toInt_add, Int.bmod_eq_of_le (by omega) (by omega)]
      omega
    split
    · exact key _ tb.1
    · exact key _ tb.2
theorem sub_t {x y : Int32} (h1 : -100000 ≤ x.toInt) (h2 : x.toInt ≤ 100000) (h3 : -100000 ≤ y.toInt) (h4 : y.toInt ≤ 100000) : (x - y).toInt = x.toInt - y.toInt := by
  rw [Int32.toInt_sub, Int.bmod_eq_of_le (by omega) (by omega)]
theorem add_t {x y : Int32} (h1 : -100000 ≤ x.toInt) (h2 : x.toInt ≤ 100000) (h3 : -100000 ≤ y.toInt) (h4 : y.toInt ≤ 100000) : (x + y).toInt = x.toInt + y.toInt := by
  rw [Int32.toInt_add, Int.bmod_eq_of_le (by omega) (by omega)]
theorem near_eq {S : Int32} {k : Nat} (hS : -1296 ≤ S.toInt ∧ S.toInt ≤ 1296) (hk : k ≤ 9) : (if 0 ≤ S then maxI 0 (absI S - nI k) else 0 - maxI 0 (absI S - nI k)) = nearI S (nI k) ∧ -1296 ≤ (nearI S (nI k)).toInt ∧ (nearI S (nI k)).toInt ≤ 1296 := by
  have kt := nI_toInt (n := k) (by omega)
  have zt := z_t
  have e1 : (S - nI k).toInt = S.toInt - k := by rw [sub_t (by omega) (by omega) (by omega) (by omega), kt]
  have e2 : (S + nI k).toInt = S.toInt + k := by rw [add_t (by omega) (by omega) (by omega) (by omega), kt]
  have e3 : (0 - nI k).toInt = -(k : Int) := by rw [sub_t (by omega) (by omega) (by omega) (by omega), kt, zt]; omega
  have e4 : (0 - S).toInt = -S.toInt := by rw [sub_t (by omega) (by omega) (by omega) (by omega), zt]; omega
  have e5 : (0 - S - nI k).toInt = -S.toInt - k := by rw [sub_t (by omega) (by omega) (by omega) (by omega), kt, e4]
  unfold nearI absI
  by_cases c : 0 ≤ S
  · have c' := Int32.le_iff_toInt_le.mp c
    rw [zt] at c'
    rw [if_pos c, if_pos c]
    have hm := maxI_t 0 (S - nI k)
    rw [zt, e1] at hm
    by_cases d : S ≤ nI k
    · have d' := Int32.le_iff_toInt_le.mp d
      rw [kt] at d'
      rw [if_pos d, if_pos (Int32.le_iff_toInt_le.mpr (by rw [e3]; omega)), zt]
      refine ⟨Int32.toInt_inj.mp (by rw [hm, zt, if_neg (by omega)]), by omega, by omega⟩
    · have d' := Int32.lt_iff_toInt_lt.mp (Int32.not_le.mp d)
      rw [kt] at d'
      rw [if_neg d, e1]
      refine ⟨Int32.toInt_inj.mp (by rw [hm, e1, if_pos (by omega)]), by omega, by omega⟩
  · have c' := Int32.lt_iff_toInt_lt.mp (Int32.not_le.mp c)
    rw [zt] at c'
    rw [if_neg c, if_neg c, if_pos (Int32.le_iff_toInt_le.mpr (by rw [kt]; omega))]
    have hm := maxI_t 0 (0 - S - nI k)
    rw [zt, e5] at hm
    have hb : -100000 ≤ (maxI 0 (0 - S - nI k)).toInt ∧ (maxI 0 (0 - S - nI k)).toInt ≤ 100000 := by rw [hm]; split <;> omega
    have e6 : (0 - maxI 0 (0 - S - nI k)).toInt = -(maxI 0 (0 - S - nI k)).toInt := by rw [sub_t (by omega) (by omega) (by omega) (by omega), zt]; omega
    by_cases d : 0 - nI k ≤ S
    · have d' := Int32.le_iff_toInt_le.mp d
      rw [e3] at d'
      rw [if_pos d, zt]
      refine ⟨Int32.toInt_inj.mp (by rw [e6, hm, zt, if_neg (by omega)]; omega), by omega, by omega⟩
    · have d' := Int32.lt_iff_toInt_lt.mp (Int32.not_le.mp d)
      rw [e3] at d'
      rw [if_neg d, e2]
      refine ⟨Int32.toInt_inj.mp (by rw [e6, hm, e2, if_pos (by omega)]; omega), by omega, by omega⟩
theorem lean_eq {S mice rain : Int32} {m : Nat} (hS : -1296 ≤ S.toInt ∧ S.toInt ≤ 1296) (hm : m ≤ 99) (em : mice = nI m) : leanC S mice rain = leanX S mice rain ∧ -1296 ≤ (leanX S mice rain).toInt ∧ (leanX S mice rain).toInt ≤ 1296 := by
  have ed : mice / 10 = nI (m / 10) := by
    rw [em, show (10 : Int32) = nI 10 from rfl, pk_div (by omega) (by omega) (by omega)]
  obtain ⟨h1, h2, h3⟩ := near_eq (k := m / 10) hS (by omega)
  unfold leanC leanX
  rw [ed, h1]
  by_cases c : rain < 60
  · rw [if_pos c, if_neg (fun q => absurd c (Int32.not_lt.mpr q))]
    exact ⟨rfl, h2, h3⟩
  · rw [if_neg c, if_pos (Int32.not_lt.mp c)]
    refine ⟨rfl, ?_⟩
    rw [sub_t (by rw [z_t]; omega) (by rw [z_t]; omega) (by omega) (by omega), z_t]
    omega
def JB (r : Nat → Int32) (n : Nat) : Prop := MOR r n ∧ ∃ m, m ≤ 99 ∧ r 4 = nI m
theorem JB.sum {r : Nat → Int32} {n : Nat} (h : JB r n) (L : Int32) : -1296 ≤ (sumX (fun i j => r (6 + 5 * i + j)) L n).toInt ∧ (sumX (fun i j => r (6 + 5 * i + j)) L n).toInt ≤ 1296 := by
  have := sum_bd (F := fun i j => r (6 + 5 * i + j)) (L := L) n h.1.2.1 h.1.2.2.2
  have h8 := h.1.2.1
  omega
theorem JB.bd {r : Nat → Int32} {n : Nat} (h : JB r n) (L : Int32) : -1296 ≤ (leanR r n L).toInt ∧ (leanR r n L).toInt ≤ 1296 := by
  obtain ⟨m, hm, em⟩ := h.2
  exact (lean_eq (h.sum L) hm em).2
theorem PR.lean {m : Mem} {k n : Nat} {r : Nat → Int32} (h : PR m k n r) (hb : JB r n) (L : Int32) : leanC (sumC (FP m k) L n) (m (k + 1) 1) (m (k + 1) 2) = leanR r n L := by
  obtain ⟨q, hq, eq⟩ := hb.2
  have e : sumX (FP m k) L n = sumX (fun i j => r (6 + 5 * i + j)) L n := sumX_congr n (fun i j hi hj => h.2.2.2.2.2.1 i j hi hj)
  rw [sum_eq, e, h.2.2.2.2.1 1 (by omega), h.2.2.2.2.1 2 (by omega)]
  exact (lean_eq (hb.sum L) hq eq).1
theorem PR.D {m : Mem} {k n : Nat} {r : Nat → Int32} (h : PR m k n r) : ∀ i, i < n → DP m k i = DR r i := by
  intro i hi
  unfold DP DR
  rw [h.2.2.2.2.2.1 i 0 hi (by omega), h.2.2.2.2.2.1 i 1 hi (by omega), h.2.2.2.2.2.1 i 2 hi (by omega), h.2.2.2.2.1 0 (by omega)]
theorem PR.last {m : Mem} {k n : Nat} {r : Nat → Int32} (h : PR m k n r) (hb : MOR r n) : (lbS (DP m k) 1000000 n).1 = lastS (DR r) n := by
  rw [lbS_congr n h.D]
  exact last_eq (DR_nn hb)
theorem PR.first {m : Mem} {k n : Nat} {r : Nat → Int32} (h : PR m k n r) (hb : MOR r n) : (erS (DP m k) n).1 = firstS (DR r) n := by
  rw [erS_congr n h.D]
  exact first_eq (DR_nn hb)
theorem PR.next {m : Mem} {k n : Nat} {r : Nat → Int32} (h : PR m k n r) (hb : MOR r n) : (lbS (DP m k) (mx (DP m k) n) n).1 = bitT (eqB (DR r) (nxD (DR r) (lastS (DR r) n) n)) n := by
  rw [mx_congr n h.D, lbS_congr n h.D]
  exact next_eq h.2.2.1 (DR_nn hb)
theorem PR.lnM {m : Mem} {k n : Nat} {r : Nat → Int32} (h : PR m k n r) (hb : JB r n) : leanM m k n = leanR r n (lastS (DR r) n) := by
  unfold leanM
  rw [h.last hb.1]
  exact h.lean hb _
theorem heed_tab : ∀ t, t < 19 → minI 9 (nI t - 9 + 1) = maxI (-9) (minI 9 (nI t - 9 + 1)) ∧ maxI (-9) (nI t - 9 - 1) = maxI (-9) (minI 9 (nI t - 9 + -1)) ∧ nI t - 9 = maxI (-9) (minI 9 (nI t - 9 + 0)) := by decide +kernel
theorem hand_tab : ∀ h, h < 21 → 1 ≤ h → (if nI h < 20 then nI h + 1 else nI h) = minI 20 (nI h + 1) ∧ (if 1 < nI h then nI h - 1 else nI h) = maxI 1 (nI h - 1) := by decide +kernel
theorem yr_eq {L E lean : Int32} {i : Nat} {f r : Nat → Int32} (hf : ∀ j, j < 5 → f j = r (6 + 5 * i + j)) (hB : FB f) : ∀ j, j < 5 → yrF L E lean i f j = yrS L E (sgnI lean) i r (6 + 5 * i + j) := by
  obtain ⟨-, -, ⟨h, h1, h2, eh⟩, ho, -⟩ := hB
  obtain ⟨t, ht, et⟩ := op_n ho
  have tb := heed_tab t ht
  have th := hand_tab h (by omega) h1
  intro j hj
  unfold yrF yrS
  by_cases c : (L >>> (nI i &&& 31)) &&& 1 = 1
  · rw [if_neg (fun q => (bitI_X L i).mp q c), if_pos c]
    unfold hasF
    rw [← hf 4 (by omega), ← hf 2 (by omega), eh, ← th.1]
    by_cases d : nI h < 20
    · rw [if_pos d, if_pos d]
      match j, hj with
      | 0, _ => simp [upd]; exact hf 0 (by omega)
      | 1, _ => simp [upd]; exact hf 1 (by omega)
      | 2, _ => simp [upd]
      | 3, _ => simp [upd]; exact hf 3 (by omega)
      | 4, _ => simp [upd]
    · rw [if_neg d, if_neg d]
      match j, hj with
      | 0, _ => simp [upd]; exact hf 0 (by omega)
      | 1, _ => simp [upd]; exact hf 1 (by omega)
      | 2, _ => simp [upd]; exact eh
      | 3, _ => simp [upd]; exact hf 3 (by omega)
      | 4, _ => simp [upd]
  · rw [if_pos ((bitI_X L i).mpr c), if_neg c]
    have hl : ∀ j, j < 5 → (if bitI E (nI i) = 0 then f else loseF f) j = if j = 2 then yrO E i r else f j := by
      intro j hj
      unfold yrO
      by_cases d : (E >>> (nI i &&& 31)) &&& 1 = 1
      · rw [if_neg (fun q => (bitI_X E i).mp q d), if_pos d, ← hf 2 (by omega), eh, ← th.2]
        unfold loseF
        rw [eh]
        by_cases g : 1 < nI h
        · rw [if_pos g, if_pos g]
          match j, hj with
          | 0, _ => simp [upd]
          | 1, _ => simp [upd]
          | 2, _ => simp [upd]
          | 3, _ => simp [upd]
          | 4, _ => simp [upd]
        · rw [if_neg g, if_neg g]
          by_cases j2 : j = 2
          · rw [if_pos j2, j2, eh]
          · rw [if_neg j2]
      · rw [if_pos ((bitI_X E i).mpr d), if_neg d]
        by_cases j2 : j = 2
        · rw [if_pos j2, j2, hf 2 (by omega)]
        · rw [if_neg j2]
    obtain ⟨g, hg⟩ : ∃ g, g = (if bitI E (nI i) = 0 then f else loseF f) := ⟨_, rfl⟩
    rw [← hg] at hl ⊢
    have g3 : g 3 = nI t - 9 := by rw [hl 3 (by omega), if_neg (by decide), et]
    have key : heedF g lean j = if j = 3 then maxI (-9) (minI 9 (nI t - 9 + sgnI lean)) else g j := by
      unfold heedF sgnI
      by_cases c1 : 0 < lean
      · rw [if_pos c1, if_neg (Int32.not_le.mpr c1), g3, ← tb.1]
        simp only [upd]
      · rw [if_neg c1, if_pos (Int32.not_lt.mp c1)]
        by_cases c2 : lean < 0
        · rw [if_pos c2, if_neg (Int32.not_le.mpr c2), g3, ← tb.2.1]
          simp only [upd]
        · rw [if_neg c2, if_pos (Int32.not_lt.mp c2), ← tb.2.2]
          by_cases j3 : j = 3
          · rw [if_pos j3, j3, g3]
          · rw [if_neg j3]
    rw [key, ← hf 3 (by omega), et]
    simp only [upd]
    by_cases j3 : j = 3
    · rw [if_pos j3, if_pos (by omega)]
    · rw [if_neg j3, if_neg (by omega), hl j hj]
      by_cases j2 : j = 2
      · rw [if_pos j2, if_pos (by omega)]
      · rw [if_neg j2, if_neg (by omega)]
        exact hf j hj
theorem JB_year {r : Nat → Int32} {n : Nat} (h : JB r n) : JB (yearR r n) n := by
  refine ⟨MOR_year h.1, ?_⟩
  obtain ⟨m, hm, em⟩ := h.2
  refine ⟨m, hm, ?_⟩
  unfold yearR
  simp only [upd]
  rw [if_neg (by decide), yrR_hi _ _ _ _ _ (by omega)]
  exact em
theorem yearR_at {r : Nat → Int32} {n j : Nat} (h1 : j ≠ 1) (hj : j < 6 ∨ 6 + 5 * n ≤ j) : yearR r n j = r j := by
  unfold yearR
  simp only [upd]
  rw [if_neg h1, yrR_hi _ _ _ _ _ hj]
theorem PR.year {m : Mem} {k n : Nat} {r : Nat → Int32} (hk : kd k = 1) (h : PR m k n r) (hb : JB r n) : PR (yearMem m k n) k n (yearR r n) := by
  have h8 := h.2.2.1
  refine ⟨by rw [yearR_at (by decide) (by omega)]; exact h.1, by rw [yearMem_k _ _ _ _ (by decide)]; exact h.2.1, h8, by rw [yearMem_k _ _ _ _ (by decide), yearR_at (by decide) (by omega)]; exact h.2.2.2.1, fun j hj => ?_, fun i j hi hj => ?_, fun j hj => ?_⟩
  · rw [yearMem_o _ (by omega) (by omega), yearR_at (by omega) (by omega)]
    exact h.2.2.2.2.1 j hj
  · unfold yearMem
    rw [upR_ne _ _ (by omega), h.last hb.1, h.first hb.1, h.lnM hb]
    unfold yrT
    rw [if_pos (by omega), show k + 3 + i - (k + 3) = i by omega]
    have := yr_eq (L := lastS (DR r) n) (E := firstS (DR r) n) (lean := leanR r n (lastS (DR r) n)) (i := i) (f := m (k + 3 + i)) (r := r) (fun j hj => h.2.2.2.2.2.1 i j hi hj) (FB_congr (fun j hj => h.2.2.2.2.2.1 i j hi hj) (hb.1.2.2.2 i hi)) j hj
    rw [this]
    unfold yearR
    simp only [upd]
    rw [if_neg (by omega), yrR_at _ _ _ _ hj n hi]
  · rw [yearMem_o _ (by omega) (by omega), yearR_at (by omega) (by omega)]
    exact h.2.2.2.2.2.2 j hj
theorem JB_yrs {r : Nat → Int32} {n : Nat} (h : JB r n) : ∀ y, JB (yrsR r n y) n
  | 0 => h
  | y + 1 => JB_year (JB_yrs h y)
theorem PR.yrs {m : Mem} {k n : Nat} {r : Nat → Int32} (hk : kd k = 1) (h : PR m k n r) (hb : JB r n) : ∀ y, PR (yrs m k n y) k n (yrsR r n y)
  | 0 => h
  | y + 1 => PR.year hk (PR.yrs hk h hb y) (JB_yrs hb y)
