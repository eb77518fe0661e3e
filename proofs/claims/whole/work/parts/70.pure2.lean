/-! class = reference: days, sets -/
theorem day_bd {kind hands wet : Int32} {h w t : Nat} (hh : hands = nI h) (hw : wet = nI w) (h1 : 1 ≤ h) (h20 : h ≤ 20) (hw9 : w ≤ 99) (ht : t ≤ 999) : ∃ d, d ≤ 2000 ∧ dayI kind (nI t) hands wet = nI d := by
  obtain ⟨a, b, c, ha, hb, hc, H1, H2, H3⟩ := reap_zones (kind := kind) hh hw h1 h20 hw9
  have wl : ∀ u, u ≤ 20 → wN b c u ≤ 60 := by
    intro u hu
    unfold wN
    have q1 := dn_le (fl := 0) (s := u) hc.1
    have q2 := dn_le (fl := 5) (s := u) hb.1
    have q3 := dn_le (fl := 0) (s := u - dnN 5 u b * b) hc.1
    split
    · omega
    · split
      · omega
      · omega
  rcases Nat.lt_or_ge 20 t with c1 | c1
  · obtain ⟨d, e1, e2, e3, e4, e5⟩ := day_hi (hands := hands) (wet := wet) ha H1 c1 ht
    have e6 : (nI t - 21) / reapF kind hands wet (nI t) + 1 = nI ((t - 21) / a + 1) := by
      rw [e5, show (21 : Int32) = nI 21 from rfl, pk_sub (by omega), pk_div (by omega) (by omega) (by omega), nI_1]
    rw [e6] at e1
    rw [← e1] at e2 e3 e4
    have q := Nat.div_le_self (t - 21) a
    obtain ⟨x, hx⟩ : ∃ x, x = nI t - nI ((t - 21) / a + 1) * reapF kind hands wet (nI t) := ⟨_, rfl⟩
    rw [← hx] at e2 e3 e4
    rw [e2]
    rcases Int.lt_or_le 0 x.toInt with c2 | c2
    · have hx2 : x = nI x.toInt.toNat := nI_ofInt (by omega)
      rw [hx2, Vd_N hb hc H2 H3 (by omega), nI_add]
      have := wl x.toInt.toNat (by omega)
      exact ⟨_, by omega, rfl⟩
    · rw [Vd_neg c2]
      exact ⟨_, by omega, rfl⟩
  · rw [day_lo (by rw [nI_toInt (by omega)]; omega), Vd_N hb hc H2 H3 c1]
    have := wl t c1
    exact ⟨wN b c t, by omega, by rw [show (0 : Int32) = nI 0 from rfl, nI_add, Nat.zero_add]⟩
theorem DR_bd {r : Nat → Int32} {n i : Nat} (h : MOR r n) (hi : i < n) : ∃ d, d ≤ 2000 ∧ DR r i = nI d := by
  obtain ⟨w, hw, ew⟩ := h.2.2.1
  obtain ⟨-, ⟨t, ht, et⟩, ⟨q, q1, q2, eq⟩, -, -⟩ := h.2.2.2 i hi
  unfold DR
  have := day_bd (kind := r (6 + 5 * i + 0)) eq ew q1 q2 hw ht
  rw [← et] at this
  exact this
def nnD (D : Nat → Int32) (n : Nat) : Prop := ∀ i, i < n → 0 ≤ (D i).toInt ∧ (D i).toInt < 1000000
theorem DR_nn {r : Nat → Int32} {n : Nat} (h : MOR r n) : nnD (DR r) n := by
  intro i hi
  obtain ⟨d, hd, e⟩ := DR_bd h hi
  rw [e, nI_toInt (by omega)]
  omega
theorem maxI_t (x y : Int32) : (maxI x y).toInt = if x.toInt < y.toInt then y.toInt else x.toInt := by
  unfold maxI
  by_cases c : x < y
  · rw [if_pos c, if_pos (Int32.lt_iff_toInt_lt.mp c)]
  · rw [if_neg c, if_neg (fun q => c (Int32.lt_iff_toInt_lt.mpr q))]
theorem minI_t (x y : Int32) : (minI x y).toInt = if y.toInt < x.toInt then y.toInt else x.toInt := by
  unfold minI
  by_cases c : y < x
  · rw [if_pos c, if_pos (Int32.lt_iff_toInt_lt.mp c)]
  · rw [if_neg c, if_neg (fun q => c (Int32.lt_iff_toInt_lt.mpr q))]
def nxb (D : Nat → Int32) (b : Int32) : Nat → Int32
  | 0 => -1
  | k + 1 => if b ≤ D k then nxb D b k else maxI (nxb D b k) (D k)
theorem m1_t : (-1 : Int32).toInt = -1 := by decide
theorem z_t : (0 : Int32).toInt = 0 := by decide
theorem nxb_c {D : Nat → Int32} {b : Int32} : ∀ k, nnD D k → -1 ≤ (nxb D b k).toInt ∧ (∀ i, i < k → ¬ b ≤ D i → (D i).toInt ≤ (nxb D b k).toInt) ∧ ((nxb D b k).toInt = -1 ∨ ∃ i, i < k ∧ ¬ b ≤ D i ∧ nxb D b k = D i) := by
  intro k
  induction k with
  | zero => intro _; exact ⟨by rw [nxb, m1_t]; omega, fun i hi => by omega, Or.inl (by rw [nxb, m1_t])⟩
  | succ k ih =>
    intro h
    obtain ⟨h1, h2, h3⟩ := ih (fun i hi => h i (by omega))
    rw [nxb]
    by_cases c : b ≤ D k
    · rw [if_pos c]
      refine ⟨h1, fun i hi hb => ?_, ?_⟩
      · rcases Nat.lt_or_ge i k with q | q
        · exact h2 i q hb
        · rw [show i = k by omega] at hb
          exact absurd c hb
      · rcases h3 with q | ⟨i, q1, q2, q3⟩
        · exact Or.inl q
        · exact Or.inr ⟨i, by omega, q2, q3⟩
    · rw [if_neg c]
      have hm := maxI_t (nxb D b k) (D k)
      refine ⟨by rw [hm]; split <;> omega, fun i hi hb => ?_, ?_⟩
      · rw [hm]
        rcases Nat.lt_or_ge i k with q | q
        · have := h2 i q hb
          split <;> omega
        · rw [show i = k by omega]
          split <;> omega
      · unfold maxI
        by_cases e : nxb D b k < D k
        · rw [if_pos e]
          exact Or.inr ⟨k, by omega, c, rfl⟩
        · rw [if_neg e]
          rcases h3 with q | ⟨i, q1, q2, q3⟩
          · exact Or.inl q
          · exact Or.inr ⟨i, by omega, q2, q3⟩
theorem bitT_0 {P : Nat → Bool} : ∀ k, (∀ i, i < k → P i = false) → bitT P k = 0 := by
  intro k
  induction k with
  | zero => intro _; rfl
  | succ k ih => intro h; rw [bitT, if_neg (by rw [h k (by omega)]; decide)]; exact ih (fun i hi => h i (by omega))
theorem or_l0 (x : Int32) : (0 : Int32) ||| x = x := by
  have := or_0 x
  rw [Int32.or_comm] at this
  exact this
theorem lbS_eq {D : Nat → Int32} {b : Int32} : ∀ k, nnD D k → (lbS D b k).1 = bitT (eqB D (nxb D b k)) k ∧ (lbS D b k).2 = maxI 0 (nxb D b k) := by
  intro k
  induction k with
  | zero => intro _; exact ⟨rfl, rfl⟩
  | succ k ih =>
    intro h
    obtain ⟨h1, h2⟩ := ih (fun i hi => h i (by omega))
    obtain ⟨c1, c2, c3⟩ := nxb_c (b := b) k (fun i hi => h i (by omega))
    have hk := h k (by omega)
    rw [lbS, nxb, bitT]
    by_cases c : b ≤ D k
    · rw [if_pos c, if_pos c]
      refine ⟨?_, h2⟩
      rw [if_neg, h1]
      unfold eqB
      rw [decide_eq_true_iff]
      intro e
      rcases c3 with q | ⟨i, q1, q2, q3⟩
      · rw [e, q] at hk
        omega
      · rw [q3] at e
        rw [e] at c
        exact q2 c
    · rw [if_neg c, if_neg c, h2, h1]
      have hm := maxI_t (nxb D b k) (D k)
      have hz := maxI_t 0 (nxb D b k)
      rw [z_t] at hz
      by_cases g : maxI 0 (nxb D b k) ≤ D k
      · rw [if_pos g]
        have g' := Int32.le_iff_toInt_le.mp g
        rw [hz] at g'
        have e1 : maxI (nxb D b k) (D k) = D k := by
          apply Int32.toInt_inj.mp
          rw [hm]
          split
          · rfl
          · split at g' <;> omega
        rw [e1, if_pos (show eqB D (D k) k = true by unfold eqB; exact decide_eq_true rfl)]
        by_cases l : D k ≤ maxI 0 (nxb D b k)
        · have l' := Int32.le_iff_toInt_le.mp l
          rw [hz] at l'
          rw [if_pos l]
          rcases Int.lt_or_le (nxb D b k).toInt 0 with n1 | n1
          · have d0 : (D k).toInt = 0 := by rw [if_neg (by omega)] at l'; omega
            have z0 : ∀ Y : Int32, Y = 0 ∨ Y = nxb D b k → bitT (eqB D (nxb D b k)) k = 0 := by
              intro Y _
              refine bitT_0 k (fun i hi => ?_)
              unfold eqB
              rw [decide_eq_false_iff_not]
              intro e
              have := h i (by omega)
              rw [e] at this
              omega
            refine ⟨?_, ?_⟩
            · rw [z0 0 (Or.inl rfl)]
              show (0 : Int32) ||| _ = _
              congr 1
              refine (bitT_0 k (fun i hi => ?_)).symm
              unfold eqB
              rw [decide_eq_false_iff_not]
              intro e
              have hi' := h i (by omega)
              rcases Classical.em (b ≤ D i) with q | q
              · rw [e] at q
                exact c q
              · have := c2 i hi q
                omega
            · show D k = maxI 0 (D k)
              apply Int32.toInt_inj.mp
              rw [maxI_t, z_t]
              split <;> omega
          · have e2 : nxb D b k = D k := by
              apply Int32.toInt_inj.mp
              split at l' <;> split at g' <;> omega
            rw [e2]
            refine ⟨rfl, ?_⟩
            show D k = maxI 0 (D k)
            apply Int32.toInt_inj.mp
            rw [maxI_t, z_t]
            split <;> omega
        · rw [if_neg l]
          have l' : (maxI 0 (nxb D b k)).toInt < (D k).toInt := Int32.lt_iff_toInt_lt.mp (Int32.not_le.mp l)
          rw [hz] at l'
          refine ⟨?_, ?_⟩
          · rw [bitT_0 k (fun i hi => ?_), or_l0]
            unfold eqB
            rw [decide_eq_false_iff_not]
            intro e
            rcases Classical.em (b ≤ D i) with q | q
            · rw [e] at q
              exact c q
            · have := c2 i hi q
              rw [e] at this
              split at l' <;> omega
          · show D k = maxI 0 (D k)
            apply Int32.toInt_inj.mp
            rw [maxI_t, z_t]
            split <;> omega
      · rw [if_neg g]
        have g' : (D k).toInt < (maxI 0 (nxb D b k)).toInt := Int32.lt_iff_toInt_lt.mp (Int32.not_le.mp g)
        rw [hz] at g'
        have e1 : maxI (nxb D b k) (D k) = nxb D b k := by
          apply Int32.toInt_inj.mp
          rw [hm]
          split
          · split at g' <;> omega
          · rfl
        rw [e1]
        refine ⟨?_, h2⟩
        rw [if_neg, h1]
        unfold eqB
        rw [decide_eq_true_iff]
        intro e
        rw [e] at g' hk
        split at g' <;> omega
theorem nxb_mx {D : Nat → Int32} : ∀ k, nnD D (k + 1) → nxb D 1000000 (k + 1) = mx D (k + 1) := by
  have c : ∀ i, (D i).toInt < 1000000 → ¬ (1000000 : Int32) ≤ D i := by
    intro i hi q
    have := Int32.le_iff_toInt_le.mp q
    rw [show (1000000 : Int32).toInt = 1000000 from by decide] at this
    omega
  intro k
  induction k with
  | zero =>
    intro h
    have := h 0 (by omega)
    rw [nxb, if_neg (c 0 this.2)]
    apply Int32.toInt_inj.mp
    rw [maxI_t, nxb, m1_t, if_pos (by omega), mx, maxI_t, mx, z_t]
    split <;> omega
  | succ k ih =>
    intro h
    have := h (k + 1) (by omega)
    rw [nxb, if_neg (c _ this.2), ih (fun i hi => h i (by omega))]
    rfl
theorem last_eq {D : Nat → Int32} {n : Nat} (h : nnD D n) : (lbS D 1000000 n).1 = lastS D n := by
  rw [(lbS_eq n h).1]
  cases n with
  | zero => rfl
  | succ k => rw [nxb_mx k h]; rfl
theorem mx_c {D : Nat → Int32} : ∀ k, nnD D k → 0 ≤ (mx D k).toInt ∧ ∀ i, i < k → (D i).toInt ≤ (mx D k).toInt := by
  intro k
  induction k with
  | zero => intro _; exact ⟨by rw [mx, z_t]; omega, fun i hi => by omega⟩
  | succ k ih =>
    intro h
    obtain ⟨h1, h2⟩ := ih (fun i hi => h i (by omega))
    have hm := maxI_t (mx D k) (D k)
    rw [mx]
    refine ⟨by rw [hm]; split <;> omega, fun i hi => ?_⟩
    rw [hm]
    rcases Nat.lt_or_ge i k with q | q
    · have := h2 i q
      split <;> omega
    · rw [show i = k by omega]
      split <;> omega
theorem mnD_c {D : Nat → Int32} {m0 : Int32} : ∀ k, (mnD D m0 k).toInt ≤ m0.toInt ∧ (∀ i, i < k → (mnD D m0 k).toInt ≤ (D i).toInt) ∧ (mnD D m0 k = m0 ∨ ∃ i, i < k ∧ mnD D m0 k = D i) := by
  intro k
  induction k with
  | zero => exact ⟨Int.le_refl _, fun i hi => by omega, Or.inl rfl⟩
  | succ k ih =>
    obtain ⟨h1, h2, h3⟩ := ih
    have hm := minI_t (mnD D m0 k) (D k)
    rw [mnD]
    refine ⟨by rw [hm]; split <;> omega, fun i hi => ?_, ?_⟩
    · rw [hm]
      rcases Nat.lt_or_ge i k with q | q
      · have := h2 i q
        split <;> omega
      · rw [show i = k by omega]
        split <;> omega
    · unfold minI
      by_cases e : D k < mnD D m0 k
      · rw [if_pos e]
        exact Or.inr ⟨k, by omega, rfl⟩
      · rw [if_neg e]
        rcases h3 with q | ⟨i, q1, q3⟩
        · exact Or.inl q
        · exact Or.inr ⟨i, by omega, q3⟩
theorem erS_eq {D : Nat → Int32} : ∀ k, nnD D k → (erS D k).1 = bitT (eqB D (mnD D 1000000 k)) k ∧ (erS D k).2 = mnD D 1000000 k := by
  intro k
  induction k with
  | zero => intro _; exact ⟨rfl, rfl⟩
  | succ k ih =>
    intro h
    obtain ⟨h1, h2⟩ := ih (fun i hi => h i (by omega))
    obtain ⟨c1, c2, c3⟩ := mnD_c (D := D) (m0 := 1000000) k
    have hm := minI_t (mnD D 1000000 k) (D k)
    rw [erS, mnD, bitT, h2, h1]
    by_cases g : D k ≤ mnD D 1000000 k
    · rw [if_pos g]
      have g' := Int32.le_iff_toInt_le.mp g
      have e1 : minI (mnD D 1000000 k) (D k) = D k := by
        apply Int32.toInt_inj.mp
        rw [hm]
        split <;> omega
      rw [e1, if_pos (show eqB D (D k) k = true by unfold eqB; exact decide_eq_true rfl)]
      by_cases l : mnD D 1000000 k ≤ D k
      · rw [if_pos l]
        have e2 : mnD D 1000000 k = D k := Int32.toInt_inj.mp (by have := Int32.le_iff_toInt_le.mp l; omega)
        rw [e2]
        exact ⟨rfl, rfl⟩
      · rw [if_neg l]
        have l' : (D k).toInt < (mnD D 1000000 k).toInt := Int32.lt_iff_toInt_lt.mp (Int32.not_le.mp l)
        refine ⟨?_, rfl⟩
        rw [bitT_0 k (fun i hi => ?_), or_l0]
        unfold eqB
        rw [decide_eq_false_iff_not]
        intro e
        have := c2 i hi
        rw [e] at this
        omega
    · rw [if_neg g]
      have g' : (mnD D 1000000 k).toInt < (D k).toInt := Int32.lt_iff_toInt_lt.mp (Int32.not_le.mp g)
      have e1 : minI (mnD D 1000000 k) (D k) = mnD D 1000000 k := by
        apply Int32.toInt_inj.mp
        rw [hm]
        split <;> omega
      rw [e1]
      refine ⟨?_, h2⟩
      rw [if_neg, h1]
      unfold eqB
      rw [decide_eq_true_iff]
      intro e
      rw [e] at g'
      omega
theorem first_eq {D : Nat → Int32} {n : Nat} (h : nnD D n) : (erS D n).1 = firstS D n := by
  rw [(erS_eq n h).1]
  cases n with
  | zero => rfl
  | succ k =>
    obtain ⟨a1, a2, a3⟩ := mnD_c (D := D) (m0 := 1000000) (k + 1)
    obtain ⟨b1, b2, b3⟩ := mnD_c (D := D) (m0 := mx D (k + 1)) (k + 1)
    obtain ⟨c1, c2⟩ := mx_c (k + 1) h
    have e : mnD D 1000000 (k + 1) = mnD D (mx D (k + 1)) (k + 1) := by
      apply Int32.toInt_inj.mp
      have h0 := h 0 (by omega)
      have a0 := a2 0 (by omega)
      rcases a3 with q | ⟨i, q1, q2⟩
      · rw [q, show (1000000 : Int32).toInt = 1000000 from by decide] at a0
        omega
      · have := b2 i q1
        rcases b3 with p | ⟨j, p1, p2⟩
        · have u := c2 i q1
          rw [p] at this
          rw [p, q2]
          omega
        · have v := a2 j p1
          rw [q2] at v
          rw [p2] at this
          rw [q2, p2]
          omega
    rw [e]
    rfl
theorem bitP_1 : ∀ n, n < 8 → ∀ x, x < 2 ^ n → ∀ i, i < n → (x + 2 ^ n) / 2 ^ i % 2 = x / 2 ^ i % 2 := by decide +kernel
theorem bitP_2 : ∀ n, n < 8 → ∀ x, x < 2 ^ n → (x + 2 ^ n) / 2 ^ n % 2 = 1 ∧ x / 2 ^ n % 2 = 0 := by decide +kernel
theorem bitN_at (P : Nat → Bool) {i : Nat} (hi8 : i < 8) : ∀ n, n ≤ 8 → i < n → bitN P n / 2 ^ i % 2 = if P i then 1 else 0 := by
  intro n
  induction n with
  | zero => intro _ h; omega
  | succ n ih =>
    intro hn h
    have hb := (bitT_N P n (by omega)).2
    have ht := bitP_2 n (by omega) (bitN P n) hb
    rw [bitN]
    rcases Nat.lt_or_ge i n with q | q
    · by_cases c : P n = true
      · rw [if_pos c, bitP_1 n (by omega) (bitN P n) hb i q]
        exact ih (by omega) q
      · rw [if_neg c]
        exact ih (by omega) q
    · have e : i = n := by omega
      rw [e]
      by_cases c : P n = true
      · rw [if_pos c, ht.1, if_pos c]
      · rw [if_neg c, ht.2, if_neg c]
theorem bit_tab : ∀ w, w < 256 → ∀ i, i < 8 → (nI w >>> (nI i &&& 31)) &&& 1 = nI (w / 2 ^ i % 2) := by decide +kernel
theorem bitT_at (P : Nat → Bool) {n i : Nat} (hn : n ≤ 8) (hi : i < n) : (bitT P n >>> (nI i &&& 31)) &&& 1 = if P i then 1 else 0 := by
  obtain ⟨h1, h2⟩ := bitT_N P n hn
  have := pow_le hn
  rw [h1, bit_tab _ (by omega) i (by omega), bitN_at P (by omega) n hn hi]
  split <;> rfl
theorem nxD_eq {D : Nat → Int32} {n : Nat} (hn : n ≤ 8) (h : nnD D n) : nxD D (lastS D n) n = nxb D (mx D n) n := by
  have key : ∀ k, k ≤ n → nxD D (lastS D n) k = nxb D (mx D n) k := by
    intro k
    induction k with
    | zero => intro _; rfl
    | succ k ih =>
      intro hk
      rw [nxD, nxb, ih (by omega)]
      unfold lastS
      rw [bitT_at _ hn (by omega)]
      unfold eqB
      have hm := (mx_c n h).2 k (by omega)
      by_cases c : D k = mx D n
      · rw [decide_eq_true c, if_pos rfl, if_neg (by decide), if_pos (by rw [c]; exact Int32.le_refl _)]
      · rw [decide_eq_false c, if_neg (show ¬ false = true by decide), if_pos rfl, if_neg]
        intro q
        have := Int32.le_iff_toInt_le.mp q
        exact c (Int32.toInt_inj.mp (by omega))
  exact key n (Nat.le_refl _)
theorem next_eq {D : Nat → Int32} {n : Nat} (hn : n ≤ 8) (h : nnD D n) : (lbS D (mx D n) n).1 = bitT (eqB D (nxD D (lastS D n) n)) n := by
  rw [(lbS_eq n h).1, nxD_eq hn h]
