/-! class = reference: what is left, opinions, fits, cuts -/
section LEFT
variable {kind hands wet : Int32}
theorem lef_id {fl : Nat} {s n : Int32} (h : s.toInt ≤ fl) (hf : fl ≤ 20) (hn : 0 ≤ n.toInt) : lefF kind hands wet (nI fl) (s, n) = (s, n) := by
  unfold lefF
  simp only
  rw [down_neg h hf]
  have e : minI n 0 = 0 := by
    apply Int32.toInt_inj.mp
    rw [minI_t, z_t]
    split <;> omega
  rw [e, i32_x0]
  simp
theorem lef_0 {fl : Nat} {s : Int32} (hf : fl ≤ 20) (hd : 0 ≤ (downF (nI fl) s (reapF kind hands wet s)).toInt) : lefF kind hands wet (nI fl) (s, nI 0) = (s, nI 0) := by
  unfold lefF
  simp only
  have e : minI (nI 0) (downF (nI fl) s (reapF kind hands wet s)) = 0 := by
    apply Int32.toInt_inj.mp
    rw [minI_t, nI_toInt (by omega), z_t]
    split <;> omega
  rw [e, i32_x0]
  simp
theorem lef_st {fl s r n : Nat} (hf : fl ≤ 20) (h : fl < s) (hs : s ≤ 1000) (hr : 1 ≤ r) (hr2 : r ≤ 43) (hn : n ≤ 1000) (e1 : reapF kind hands wet (nI s) = nI r) (e2 : fl < s - r → reapF kind hands wet (nI (s - r)) = nI r) : lefF kind hands wet (nI fl) (nI s, nI (n + 1)) = lefF kind hands wet (nI fl) (nI s - nI r, nI n) := by
  rcases Nat.lt_or_ge fl (s - r) with c | c
  · have es : nI s - nI r = nI (s - r) := pk_sub (by omega)
    have d1 := dn_more (fl := fl) (s := s) (r := r) hr c
    have dl := dn_le (fl := fl) (s := s - r) hr
    rw [es]
    unfold lefF
    simp only
    rw [e1, e2 c, down_N hs hf hr hr2, down_N (by omega) hf hr hr2, d1, minI_N (by omega) (by omega), minI_N (by omega) (by omega)]
    rw [show min (n + 1) (dnN fl (s - r) r + 1) = min n (dnN fl (s - r) r) + 1 by omega]
    obtain ⟨q, hq⟩ : ∃ q, q = min n (dnN fl (s - r) r) := ⟨_, rfl⟩
    rw [← hq, ← es]
    have a1 : nI (q + 1) * nI r = nI r + nI q * nI r := by
      rw [← nI_1, Int32.add_mul, Int32.one_mul, Int32.add_comm]
    rw [a1, ← Int32.sub_sub]
    refine Prod.ext rfl ?_
    show nI (n + 1) - nI (q + 1) = nI n - nI q
    rw [pk_sub (by omega), pk_sub (by omega)]
    congr 1
    omega
  · have d1 := dn_one (fl := fl) (s := s) (r := r) hr h c
    have ei : (nI s - nI r).toInt = (s : Int) - r := by
      rw [sub_t (by rw [nI_toInt (by omega)]; omega) (by rw [nI_toInt (by omega)]; omega) (by rw [nI_toInt (by omega)]; omega) (by rw [nI_toInt (by omega)]; omega), nI_toInt (by omega), nI_toInt (by omega)]
    rw [lef_id (s := nI s - nI r) (n := nI n) (by rw [ei]; omega) hf (by rw [nI_toInt (by omega)]; omega)]
    unfold lefF
    simp only
    rw [e1, down_N hs hf hr hr2, d1, minI_N (by omega) (by omega), show min (n + 1) 1 = 1 by omega, show nI 1 = (1 : Int32) from rfl, Int32.one_mul, nI_pred]
def Zn (kind hands wet : Int32) (q : Int32 × Int32) : Int32 := (lefF kind hands wet (nI 0) (lefF kind hands wet (nI 5) (lefF kind hands wet (nI 20) q))).1
theorem left_eq {h w t n : Nat} (hh : hands = nI h) (hw : wet = nI w) (h1 : 1 ≤ h) (h20 : h ≤ 20) (hw9 : w ≤ 99) (ht : t ≤ 999) (hn : n ≤ 999) : leftI kind (nI t) hands wet (nI n) = lbR kind hands wet n (nI t) := by
  obtain ⟨a, b, c, ha, hb, hc, H1, H2, H3⟩ := reap_zones (kind := kind) hh hw h1 h20 hw9
  have zr : ∀ x : Int32, ∃ r, 1 ≤ r ∧ r ≤ 43 ∧ reapF kind hands wet x = nI r := by
    intro x
    by_cases q1 : (20 : Int32) < x
    · exact ⟨a, ha.1, ha.2, H1 x q1⟩
    · by_cases q2 : (5 : Int32) < x
      · exact ⟨b, hb.1, hb.2, H2 x q1 q2⟩
      · exact ⟨c, hc.1, hc.2, H3 x q2⟩
  have dz : ∀ (fl : Nat) (x : Int32), fl ≤ 20 → x.toInt ≤ 1000 → 0 ≤ (downF (nI fl) x (reapF kind hands wet x)).toInt := by
    intro fl x hfl hx
    obtain ⟨r, r1, r2, er⟩ := zr x
    rcases Int.lt_or_le 0 x.toInt with p | p
    · have ex : x = nI x.toInt.toNat := nI_ofInt (by omega)
      have dl := dn_le (fl := fl) (s := x.toInt.toNat) r1
      rw [er, ex, down_N (by omega) hfl r1 r2, nI_toInt (by omega)]
      omega
    · rw [down_neg (by omega) hfl, z_t]
      omega
  have main : ∀ d (s : Int32), d ≤ 999 → -50 ≤ s.toInt → s.toInt ≤ 999 → maxI 0 (Zn kind hands wet (s, nI d)) = lbR kind hands wet d (maxI 0 s) := by
    intro d
    induction d with
    | zero =>
      intro s _ s1 s2
      unfold Zn
      rw [lef_0 (by omega) (dz 20 s (by omega) (by omega)), lef_0 (by omega) (dz 5 s (by omega) (by omega)), lef_0 (by omega) (dz 0 s (by omega) (by omega))]
      rfl
    | succ d ih =>
      intro s hd s1 s2
      have dn : 0 ≤ (nI (d + 1)).toInt := by rw [nI_toInt (by omega)]; omega
      have dn0 : 0 ≤ (nI d).toInt := by rw [nI_toInt (by omega)]; omega
      rcases Int.lt_or_le 0 s.toInt with p | p
      · obtain ⟨u, hu⟩ : ∃ u, u = s.toInt.toNat := ⟨_, rfl⟩
        have ex : s = nI u := nI_ofInt (by omega)
        have em : maxI 0 s = s := by
          apply Int32.toInt_inj.mp
          rw [maxI_t, z_t, if_pos p]
        obtain ⟨r, r1, r2, er⟩ := zr s
        have eb : (s - reapF kind hands wet s).toInt = s.toInt - r := by
          rw [er, sub_t (by omega) (by omega) (by rw [nI_toInt (by omega)]; omega) (by rw [nI_toInt (by omega)]; omega), nI_toInt (by omega)]
        rw [em, lbR, if_neg (fun q => by have := Int32.le_iff_toInt_le.mp q; rw [z_t] at this; omega), ← ih (s - reapF kind hands wet s) (by omega) (by omega) (by omega)]
        congr 1
        unfold Zn
        rcases Nat.lt_or_ge 20 u with q1 | q1
        · have g : lefF kind hands wet (nI 20) (s, nI (d + 1)) = lefF kind hands wet (nI 20) (s - reapF kind hands wet s, nI d) := by
            have e1 := H1 _ (y20 q1 (by omega))
            rw [ex, e1]
            exact lef_st (by omega) q1 (by omega) ha.1 ha.2 (by omega) e1 (fun k => H1 _ (y20 k (by omega)))
          rw [g]
        · rw [lef_id (fl := 20) (s := s) (by omega) (by omega) dn, lef_id (fl := 20) (s := s - reapF kind hands wet s) (by omega) (by omega) dn0]
          rcases Nat.lt_or_ge 5 u with q2 | q2
          · have g : lefF kind hands wet (nI 5) (s, nI (d + 1)) = lefF kind hands wet (nI 5) (s - reapF kind hands wet s, nI d) := by
              have e1 := H2 _ (n20 q1) (y5 q2 (by omega))
              rw [ex, e1]
              exact lef_st (by omega) q2 (by omega) hb.1 hb.2 (by omega) e1 (fun k => H2 _ (n20 (by omega)) (y5 k (by omega)))
            rw [g]
          · rw [lef_id (fl := 5) (s := s) (by omega) (by omega) dn, lef_id (fl := 5) (s := s - reapF kind hands wet s) (by omega) (by omega) dn0]
            have g : lefF kind hands wet (nI 0) (s, nI (d + 1)) = lefF kind hands wet (nI 0) (s - reapF kind hands wet s, nI d) := by
              have e1 := H3 _ (n5 q2)
              rw [ex, e1]
              exact lef_st (by omega) (by omega) (by omega) hc.1 hc.2 (by omega) e1 (fun k => H3 _ (n5 (by omega)))
            rw [g]
      · have em : maxI 0 s = 0 := by
          apply Int32.toInt_inj.mp
          rw [maxI_t, z_t, if_neg (by omega)]
        have ez : Zn kind hands wet (s, nI (d + 1)) = s := by
          unfold Zn
          rw [lef_id (fl := 20) (s := s) (by omega) (by omega) dn, lef_id (fl := 5) (s := s) (by omega) (by omega) dn, lef_id (fl := 0) (s := s) (by omega) (by omega) dn]
        rw [ez, em, lbR_0 _ _ _ (by decide)]
  have := main n (nI t) hn (by rw [nI_toInt (by omega)]; omega) (by rw [nI_toInt (by omega)]; omega)
  have e0 : maxI 0 (nI t) = nI t := by
    apply Int32.toInt_inj.mp
    rw [maxI_t, z_t, nI_toInt (by omega)]
    split <;> omega
  rw [e0] at this
  exact this
end LEFT
theorem may_fit (a v : Int32) : mayI a v = fitI a v := by
  unfold fitI
  by_cases c0 : a = 0
  · rw [if_pos c0, c0, mayI_0]
  · rw [if_neg c0]
    by_cases c1 : a = 1
    · rw [if_pos c1, c1, mayI_1]
    · rw [if_neg c1]
      by_cases c2 : a = 2
      · rw [if_pos c2, c2, mayI_2]
      · rw [if_neg c2]
        by_cases c3 : a = 3
        · rw [if_pos c3, c3, mayI_3]
        · rw [if_neg c3]
          by_cases c4 : a = 4
          · rw [if_pos c4, c4, mayI_4]
          · rw [if_neg c4]
            unfold mayI
            rw [if_pos]
            rcases inR_01 a 0 4 with q | q
            · exact q
            · obtain ⟨n, hn, e⟩ := inR_of (N := 4) (by decide) (show ¬ inR a 0 4 = 0 by rw [q]; decide)
              match n, hn with
              | 0, _ => exact absurd e c0
              | 1, _ => exact absurd e c1
              | 2, _ => exact absurd e c2
              | 3, _ => exact absurd e c3
              | 4, _ => exact absurd e c4
theorem opR_at (r : Nat → Int32) (set v : Int32) {i j : Nat} (hj : j < 5) : ∀ n, i < n → opR r set v n (6 + 5 * i + j) = if j = 3 then (if (set >>> (nI i &&& 31)) &&& 1 = 1 then v else r (6 + 5 * i + 3)) else r (6 + 5 * i + j) := by
  intro n
  induction n with
  | zero => intro h; omega
  | succ n ih =>
    intro h
    rw [opR]
    simp only [upd]
    rcases Nat.lt_or_ge i n with q | q
    · rw [if_neg (by omega)]
      exact ih q
    · have e : i = n := by omega
      subst e
      by_cases c : j = 3
      · subst c
        rw [if_pos rfl, if_pos rfl, opR_o r set v _ (by omega)]
      · rw [if_neg (by omega), if_neg c, opR_o r set v _ (by omega)]
theorem JB_op {r : Nat → Int32} {n : Nat} (h : JB r n) (set : Int32) {v : Int32} (hv : -9 ≤ v.toInt ∧ v.toInt ≤ 9) : JB (opR r set v n) n := by
  obtain ⟨m, hm, em⟩ := h.2
  obtain ⟨w, hw, ew⟩ := h.1.2.2.1
  refine ⟨⟨by rw [opR_o _ _ _ _ (by omega)]; exact h.1.1, h.1.2.1, ⟨w, hw, by rw [opR_o _ _ _ _ (by omega)]; exact ew⟩, fun i hi => ?_⟩, m, hm, by rw [opR_o _ _ _ _ (by omega)]; exact em⟩
  obtain ⟨b0, b1, b2, b3, b4⟩ := h.1.2.2.2 i hi
  have e : ∀ j, j < 5 → j ≠ 3 → opR r set v n (6 + 5 * i + j) = r (6 + 5 * i + j) := fun j hj h3 => by rw [opR_at r set v hj n hi, if_neg h3]
  refine ⟨by simp only [e 0 (by omega) (by omega)]; exact b0, by simp only [e 1 (by omega) (by omega)]; exact b1, by simp only [e 2 (by omega) (by omega)]; exact b2, ?_, by simp only [e 4 (by omega) (by omega)]; exact b4⟩
  show -9 ≤ (opR r set v n (6 + 5 * i + 3)).toInt ∧ (opR r set v n (6 + 5 * i + 3)).toInt ≤ 9
  rw [opR_at r set v (by omega) n hi, if_pos rfl]
  by_cases c : (set >>> (nI i &&& 31)) &&& 1 = 1
  · rw [if_pos c]; exact hv
  · rw [if_neg c]; exact b3
theorem tell_eq {m : Mem} {n : Nat} {r : Nat → Int32} (h : PR m 1 n r) (hb : JB r n) (L set : Int32) {v : Int32} (hv : -9 ≤ v.toInt ∧ v.toInt ≤ 9) : tellL m n L set v = leanR (opR r set v n) n L := by
  have hb2 := JB_op hb set hv
  obtain ⟨q, hq, eq⟩ := hb2.2
  have e : sumX (opF (FP m 1) set v) L n = sumX (fun i j => opR r set v n (6 + 5 * i + j)) L n := sumX_congr n (fun i j hi hj => by
    rw [opR_at r set v hj n hi]
    unfold opF FP
    by_cases c : j = 3
    · rw [if_pos c, if_pos c]
      by_cases d : (set >>> (nI i &&& 31)) &&& 1 = 1
      · rw [if_neg (fun k => (bitI_X set i).mp k d), if_pos d]
      · rw [if_pos ((bitI_X set i).mpr d), if_neg d]
        exact h.2.2.2.2.2.1 i 3 hi (by omega)
    · rw [if_neg c, if_neg c]
      exact h.2.2.2.2.2.1 i j hi hj)
  unfold tellL
  rw [sum_eq, e, show m 2 1 = opR r set v n 4 by rw [opR_o _ _ _ _ (by omega)]; exact h.2.2.2.2.1 1 (by omega), show m 2 2 = opR r set v n 5 by rw [opR_o _ _ _ _ (by omega)]; exact h.2.2.2.2.1 2 (by omega)]
  exact (lean_eq (hb2.sum L) hq eq).1
theorem leanR_congr {r s : Nat → Int32} {n : Nat} {L : Int32} (h : ∀ i j, i < n → j < 5 → r (6 + 5 * i + j) = s (6 + 5 * i + j)) (h4 : r 4 = s 4) (h5 : r 5 = s 5) : leanR r n L = leanR s n L := by
  unfold leanR
  rw [h4, h5, sumX_congr n (F := fun i j => r (6 + 5 * i + j)) (G := fun i j => s (6 + 5 * i + j)) h]
theorem one_tab : ∀ i, i < 8 → ∀ j, j < 8 → (((1 : Int32) <<< (nI i &&& 31)) >>> (nI j &&& 31)) &&& 1 = if i = j then 1 else 0 := by decide +kernel
theorem voi_eq {m : Mem} {n i : Nat} {r : Nat → Int32} (h : PR m 1 n r) (hb : JB r n) (L : Int32) (hi : i < n) : tellL m n L ((1 : Int32) <<< (nI i &&& 31)) 0 = leanR (upd r (6 + 5 * i + 3) 0) n L := by
  have h8 := h.2.2.1
  rw [tell_eq h hb L _ (by rw [z_t]; omega)]
  refine leanR_congr (fun p j hp hj => ?_) (by rw [opR_o _ _ _ _ (by omega)]; simp only [upd]; rw [if_neg (by omega)]) (by rw [opR_o _ _ _ _ (by omega)]; simp only [upd]; rw [if_neg (by omega)])
  rw [opR_at r _ _ hj n hp, one_tab i (by omega) p (by omega)]
  simp only [upd]
  by_cases c : j = 3
  · rw [if_pos c]
    by_cases d : i = p
    · rw [if_pos d, if_pos rfl, if_pos (by omega)]
    · rw [if_neg d, if_neg (by decide), if_neg (by omega), c]
  · rw [if_neg c, if_neg (by omega)]
theorem tellS_congr {W V : Nat → Int32} {q : Int32} : ∀ n, (∀ i, i < n → W i = V i) → tellS W q n = tellS V q n := by
  intro n
  induction n with
  | zero => intro _; rfl
  | succ n ih => intro h; rw [tellS, tellS, ih (fun i hi => h i (by omega)), h n (by omega)]
theorem voiS_congr {W V : Nat → Int32} : ∀ n, (∀ i, i < n → W i = V i) → voiS W n = voiS V n := by
  intro n
  induction n with
  | zero => intro _; rfl
  | succ n ih => intro h; rw [voiS, voiS, ih (fun i hi => h i (by omega)), h n (by omega)]
theorem voiSX {W : Nat → Int32} : ∀ k, (∀ i, i < k + 1 → 0 ≤ (W i).toInt) → voiS W (k + 1) = voiX W (k + 1) := by
  intro k
  induction k with
  | zero =>
    intro h
    have h0 := h 0 (by omega)
    have c : ¬ W 0 ≤ -1 := fun q => by have := Int32.le_iff_toInt_le.mp q; rw [m1_t] at this; omega
    rw [voiS, voiX]
    unfold voiS voiX
    rw [if_neg c, if_neg c]
    refine Prod.ext rfl ?_
    show W 0 = maxI (-1) (W 0)
    apply Int32.toInt_inj.mp
    rw [maxI_t, m1_t, if_pos (by omega)]
  | succ k ih =>
    intro h
    have hi := ih (fun i hi => h i (by omega))
    rw [voiS, voiX, hi]
    by_cases c : W (k + 1) ≤ (voiX W (k + 1)).2
    · rw [if_pos c, if_pos c]
      refine Prod.ext rfl ?_
      show (voiX W (k + 1)).2 = maxI (voiX W (k + 1)).2 (W (k + 1))
      unfold maxI
      rw [if_neg (Int32.not_lt.mpr c)]
    · rw [if_neg c, if_neg c]
      refine Prod.ext rfl ?_
      show W (k + 1) = maxI (voiX W (k + 1)).2 (W (k + 1))
      unfold maxI
      rw [if_pos (Int32.not_le.mp c)]
theorem abs_nn {x : Int32} (h1 : -100000 ≤ x.toInt) (h2 : x.toInt ≤ 100000) : 0 ≤ (absI x).toInt := by
  unfold absI
  by_cases c : 0 ≤ x
  · rw [if_pos c]
    have := Int32.le_iff_toInt_le.mp c
    rw [z_t] at this
    exact this
  · rw [if_neg c, sub_t (by rw [z_t]; omega) (by rw [z_t]; omega) h1 h2, z_t]
    have := Int32.lt_iff_toInt_lt.mp (Int32.not_le.mp c)
    rw [z_t] at this
    omega
theorem win_tab {p q : Nat} (hp : p < 201) (hq : q < 21) (h1 : 1 ≤ p) (h2 : 1 ≤ q) : winC (nI p) (nI q) = nI ((p - 1) % (q + 1)) := by
  unfold winC
  rw [nI_m1 (by omega), show maxI 1 (nI q) = nI (max 1 q) from maxI_N (a := 1) (by omega) (by omega), show max 1 q = q by omega, nI_1]
  exact pk_rem (by omega) (by omega) (by omega)
theorem chn_tab : ∀ o, o < 7 → ∀ b, b < 7 → ((nI b ∈ chn o) ↔ ¬ undI (nI o) (nI b) = 0) := by decide +kernel
def cnS (f : Nat → Nat) : Nat → Nat
  | 0 => 0
  | k + 1 => cnS f k + f k
theorem cnS_0 (f : Nat → Nat) : ∀ k, cnS f (k + 1) = f 0 + cnS (fun t => f (t + 1)) k
  | 0 => by simp [cnS]
  | k + 1 => by
    rw [cnS, cnS_0 f k]
    rw [show cnS (fun t => f (t + 1)) (k + 1) = cnS (fun t => f (t + 1)) k + f (k + 1) from rfl]
    omega
theorem cnS_congr {f g : Nat → Nat} : ∀ k, (∀ t, t < k → f t = g t) → cnS f k = cnS g k
  | 0, _ => rfl
  | k + 1, h => by rw [cnS, cnS, cnS_congr k (fun t ht => h t (by omega)), h k (by omega)]
theorem cnS_rev : ∀ k (f : Nat → Nat), cnS (fun y => f (k - 1 - y)) k = cnS f k
  | 0, _ => rfl
  | k + 1, f => by
    rw [cnS_0 f k, ← cnS_rev k (fun t => f (t + 1)), cnS]
    rw [show k + 1 - 1 - k = 0 by omega, Nat.add_comm]
    congr 1
    exact cnS_congr k (fun t ht => by rw [show k + 1 - 1 - t = k - 1 - t + 1 by omega])
theorem cntT_S (B : Nat → Bool) : ∀ k, cntT B k = nI (cnS (fun t => if B t then 1 else 0) k)
  | 0 => rfl
  | k + 1 => by
    rw [cntT, cntT_S B k, cnS]
    by_cases c : B k = true
    · rw [if_pos c, if_pos c, nI_1]
    · rw [if_neg c, if_neg c, Nat.add_zero]
theorem cntQ_S {P : Nat → Prop} {B : Nat → Bool} : ∀ k, (∀ t, t < k → (P t ↔ B t = true)) → cntQ P k = cnS (fun t => if B t then 1 else 0) k
  | 0, _ => rfl
  | k + 1, h => by
    rw [cnS]
    by_cases c : B k = true
    · rw [cntQ_y ((h k (by omega)).mpr c), if_pos c, cntQ_S k (fun t ht => h t (by omega))]
    · rw [cntQ_n (fun q => c ((h k (by omega)).mp q)), if_neg c, cntQ_S k (fun t ht => h t (by omega)), Nat.add_zero]
theorem cnt_rev {P : Nat → Prop} {B : Nat → Bool} (h : ∀ t, t < 19 → (P t ↔ B (18 - t) = true)) : nI (cntQ P 19) = cntT B 19 := by
  rw [cntT_S, cntQ_S (B := fun t => B (18 - t)) 19 h]
  congr 1
  exact cnS_rev 19 (fun t => if B t then 1 else 0)
theorem lowF_at {B : Nat → Bool} {old : Int32} {y : Nat} (hy : B y = true) : ∀ k, y < k → (∀ z, y < z → z < k → B z = false) → lowF B old k = opK y
  | 0, h, _ => by omega
  | k + 1, h, a => by
    rw [lowF]
    rcases Nat.lt_or_ge y k with q | q
    · rw [if_neg (by rw [a k q (by omega)]; decide)]
      exact lowF_at hy k q (fun z h1 h2 => a z h1 (by omega))
    · rw [show k = y by omega, if_pos hy]
theorem cntT_0 {B : Nat → Bool} : ∀ k, (∀ z, z < k → B z = false) → cntT B k = 0
  | 0, _ => rfl
  | k + 1, h => by rw [cntT, if_neg (by rw [h k (by omega)]; decide)]; exact cntT_0 k (fun z hz => h z (by omega))
theorem cnS_pos {f : Nat → Nat} {y : Nat} (hy : 1 ≤ f y) : ∀ k, y < k → 1 ≤ cnS f k
  | 0, h => by omega
  | k + 1, h => by
    rw [cnS]
    rcases Nat.lt_or_ge y k with q | q
    · have := cnS_pos hy k q
      omega
    · rw [show k = y by omega]
      omega
theorem cnS_le {f : Nat → Nat} (hf : ∀ t, f t ≤ 1) : ∀ k, cnS f k ≤ k
  | 0 => Nat.le_refl _
  | k + 1 => by
    rw [cnS]
    have := cnS_le hf k
    have := hf k
    omega
theorem cntT_pos {B : Nat → Bool} {y k : Nat} (hk : k ≤ 1000) (hy : B y = true) (h : y < k) : ¬ cntT B k ≤ 0 := by
  rw [cntT_S]
  have h1 := cnS_pos (f := fun t => if B t then 1 else 0) (y := y) (by simp [hy]) k h
  have h2 := cnS_le (f := fun t => if B t then 1 else 0) (fun t => by split <;> omega) k
  exact nI_nle (by omega) (by omega)
theorem opVK : ∀ t, t < 19 → opK (18 - t) = opV t := by decide +kernel
theorem PR.put {m : Mem} {k n i j : Nat} {r : Nat → Int32} (h : PR m k n r) (hi : i < n) (hj : j < 5) (v : Int32) : PR (up2 m (k + 3 + i) j v) k n (upd r (6 + 5 * i + j) v) := by
  have hn := h.2.2.1
  have o : ∀ b, b ≠ k + 3 + i → up2 m (k + 3 + i) j v b = m b := fun b hb => up2_ne _ _ _ hb
  have u : ∀ q, q ≠ 6 + 5 * i + j → upd r (6 + 5 * i + j) v q = r q := fun q hq => by simp only [upd]; rw [if_neg hq]
  refine ⟨by rw [u _ (by omega)]; exact h.1, by rw [o _ (by omega)]; exact h.2.1, hn, by rw [o _ (by omega), u _ (by omega)]; exact h.2.2.2.1, fun q hq => by rw [o _ (by omega), u _ (by omega)]; exact h.2.2.2.2.1 q hq, fun p q hp hq => ?_, fun q hq => by rw [o _ (by omega), u _ (by omega)]; exact h.2.2.2.2.2.2 q hq⟩
  by_cases e : p = i
  · subst e
    by_cases e2 : q = j
    · subst e2
      rw [up2_v1]
      simp [upd]
    · rw [up2_v, if_neg (by omega), u _ (by omega)]
      exact h.2.2.2.2.2.1 p q hp hq
  · rw [o _ (by omega), u _ (by omega)]
    exact h.2.2.2.2.2.1 p q hp hq
theorem PR.wea {m : Mem} {k n a : Nat} {r : Nat → Int32} (h : PR m k n r) (ha : a < 3) (v : Int32) : PR (up2 m (k + 1) a v) k n (upd r (3 + a) v) := by
  have hn := h.2.2.1
  have o : ∀ b, b ≠ k + 1 → up2 m (k + 1) a v b = m b := fun b hb => up2_ne _ _ _ hb
  have u : ∀ q, q ≠ 3 + a → upd r (3 + a) v q = r q := fun q hq => by simp only [upd]; rw [if_neg hq]
  refine ⟨by rw [u _ (by omega)]; exact h.1, by rw [o _ (by omega)]; exact h.2.1, hn, by rw [o _ (by omega), u _ (by omega)]; exact h.2.2.2.1, fun q hq => ?_, fun p q hp hq => by rw [o _ (by omega), u _ (by omega)]; exact h.2.2.2.2.2.1 p q hp hq, fun q hq => by rw [o _ (by omega), u _ (by omega)]; exact h.2.2.2.2.2.2 q hq⟩
  by_cases e : q = a
  · subst e
    rw [up2_v1]
    simp [upd]
  · rw [up2_v, if_neg (by omega), u _ (by omega)]
    exact h.2.2.2.2.1 q hq
